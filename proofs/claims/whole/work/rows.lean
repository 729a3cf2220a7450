section
-- ===== PART A: goes FIRST, ahead of the names: the tables' words, and 'selects' of the private methods out of them =====
/-- a private method of a class that the tables say can be made, by its rows of tables_1 -/
def lw_okq (q : MethodName × Nat) : Prop := (q.1.cls ≠ "java/lang/invoke/MethodHandle" ∧ q.1.cls ≠ "java/lang/invoke/VarHandle") ∧ Cond.instantiable q.1.cls q.2 ∈ tables_1 ∧ Cond.privateMethod q.1 ∈ tables_1 ∧ Cond.instanceMethod q.1 ∈ tables_1
theorem lw_p0 : lw_okq (⟨"StoreRealm", "write", "(I)V"⟩, 9) := ⟨⟨by decide +kernel, by decide +kernel⟩, List.mem_of_getElem? (i := 20) (by decide +kernel), List.mem_of_getElem? (i := 479) (by decide +kernel), List.mem_of_getElem? (i := 480) (by decide +kernel)⟩
theorem lw_p1 : lw_okq (⟨"StoreRealm$Tokens", "addName", "([BII)I"⟩, 4) := ⟨⟨by decide +kernel, by decide +kernel⟩, List.mem_of_getElem? (i := 167) (by decide +kernel), List.mem_of_getElem? (i := 503) (by decide +kernel), List.mem_of_getElem? (i := 504) (by decide +kernel)⟩
theorem lw_p2 : lw_okq (⟨"StoreRealm$Tokens", "add", "(III)V"⟩, 4) := ⟨⟨by decide +kernel, by decide +kernel⟩, List.mem_of_getElem? (i := 167) (by decide +kernel), List.mem_of_getElem? (i := 513) (by decide +kernel), List.mem_of_getElem? (i := 514) (by decide +kernel)⟩
theorem lw_p3 : lw_okq (⟨"StoreRealm$Tokens", "addNumber", "([BII)I"⟩, 4) := ⟨⟨by decide +kernel, by decide +kernel⟩, List.mem_of_getElem? (i := 167) (by decide +kernel), List.mem_of_getElem? (i := 589) (by decide +kernel), List.mem_of_getElem? (i := 590) (by decide +kernel)⟩
theorem lw_p4 : lw_okq (⟨"StoreRealm$OrderBook", "here", "()I"⟩, 8) := ⟨⟨by decide +kernel, by decide +kernel⟩, List.mem_of_getElem? (i := 161) (by decide +kernel), List.mem_of_getElem? (i := 600) (by decide +kernel), List.mem_of_getElem? (i := 601) (by decide +kernel)⟩
theorem lw_p5 : lw_okq (⟨"StoreRealm$OrderBook", "readLine", "()Z"⟩, 8) := ⟨⟨by decide +kernel, by decide +kernel⟩, List.mem_of_getElem? (i := 161) (by decide +kernel), List.mem_of_getElem? (i := 604) (by decide +kernel), List.mem_of_getElem? (i := 605) (by decide +kernel)⟩
theorem lw_p6 : lw_okq (⟨"StoreRealm$OrderBook", "accept", "(I)Z"⟩, 8) := ⟨⟨by decide +kernel, by decide +kernel⟩, List.mem_of_getElem? (i := 161) (by decide +kernel), List.mem_of_getElem? (i := 608) (by decide +kernel), List.mem_of_getElem? (i := 609) (by decide +kernel)⟩
theorem lw_p7 : lw_okq (⟨"StoreRealm$OrderBook", "readEither", "(I)Z"⟩, 8) := ⟨⟨by decide +kernel, by decide +kernel⟩, List.mem_of_getElem? (i := 161) (by decide +kernel), List.mem_of_getElem? (i := 612) (by decide +kernel), List.mem_of_getElem? (i := 613) (by decide +kernel)⟩
theorem lw_p8 : lw_okq (⟨"StoreRealm$OrderBook", "readOne", "(I)Z"⟩, 8) := ⟨⟨by decide +kernel, by decide +kernel⟩, List.mem_of_getElem? (i := 161) (by decide +kernel), List.mem_of_getElem? (i := 616) (by decide +kernel), List.mem_of_getElem? (i := 617) (by decide +kernel)⟩
theorem lw_p9 : lw_okq (⟨"StoreRealm$OrderBook", "readSum", "()Z"⟩, 8) := ⟨⟨by decide +kernel, by decide +kernel⟩, List.mem_of_getElem? (i := 161) (by decide +kernel), List.mem_of_getElem? (i := 624) (by decide +kernel), List.mem_of_getElem? (i := 625) (by decide +kernel)⟩
theorem lw_p10 : lw_okq (⟨"StoreRealm$OrderBook", "readTerm", "()Z"⟩, 8) := ⟨⟨by decide +kernel, by decide +kernel⟩, List.mem_of_getElem? (i := 161) (by decide +kernel), List.mem_of_getElem? (i := 628) (by decide +kernel), List.mem_of_getElem? (i := 629) (by decide +kernel)⟩
theorem lw_p11 : lw_okq (⟨"StoreRealm$OrderBook", "valueHere", "()I"⟩, 8) := ⟨⟨by decide +kernel, by decide +kernel⟩, List.mem_of_getElem? (i := 161) (by decide +kernel), List.mem_of_getElem? (i := 632) (by decide +kernel), List.mem_of_getElem? (i := 633) (by decide +kernel)⟩
theorem lw_p12 : lw_okq (⟨"StoreRealm$OrderBook", "noteFault", "()V"⟩, 8) := ⟨⟨by decide +kernel, by decide +kernel⟩, List.mem_of_getElem? (i := 161) (by decide +kernel), List.mem_of_getElem? (i := 643) (by decide +kernel), List.mem_of_getElem? (i := 644) (by decide +kernel)⟩
theorem lw_p13 : lw_okq (⟨"StoreRealm", "passMonth", "()V"⟩, 9) := ⟨⟨by decide +kernel, by decide +kernel⟩, List.mem_of_getElem? (i := 20) (by decide +kernel), List.mem_of_getElem? (i := 655) (by decide +kernel), List.mem_of_getElem? (i := 656) (by decide +kernel)⟩
theorem lw_p14 : lw_okq (⟨"StoreRealm$Carriers", "unload", "(ILStoreRealm$Land;LStoreRealm$Tally;)V"⟩, 6) := ⟨⟨by decide +kernel, by decide +kernel⟩, List.mem_of_getElem? (i := 135) (by decide +kernel), List.mem_of_getElem? (i := 663) (by decide +kernel), List.mem_of_getElem? (i := 664) (by decide +kernel)⟩
theorem lw_p15 : lw_okq (⟨"StoreRealm", "obey", "(LStoreRealm$Orders;I)V"⟩, 9) := ⟨⟨by decide +kernel, by decide +kernel⟩, List.mem_of_getElem? (i := 20) (by decide +kernel), List.mem_of_getElem? (i := 710) (by decide +kernel), List.mem_of_getElem? (i := 711) (by decide +kernel)⟩
def lw_privs_1 : List (MethodName × Nat) := [(⟨"StoreRealm", "write", "(I)V"⟩, 9), (⟨"StoreRealm$Tokens", "addName", "([BII)I"⟩, 4), (⟨"StoreRealm$Tokens", "add", "(III)V"⟩, 4), (⟨"StoreRealm$Tokens", "addNumber", "([BII)I"⟩, 4), (⟨"StoreRealm$OrderBook", "here", "()I"⟩, 8), (⟨"StoreRealm$OrderBook", "readLine", "()Z"⟩, 8), (⟨"StoreRealm$OrderBook", "accept", "(I)Z"⟩, 8), (⟨"StoreRealm$OrderBook", "readEither", "(I)Z"⟩, 8), (⟨"StoreRealm$OrderBook", "readOne", "(I)Z"⟩, 8), (⟨"StoreRealm$OrderBook", "readSum", "()Z"⟩, 8), (⟨"StoreRealm$OrderBook", "readTerm", "()Z"⟩, 8), (⟨"StoreRealm$OrderBook", "valueHere", "()I"⟩, 8), (⟨"StoreRealm$OrderBook", "noteFault", "()V"⟩, 8), (⟨"StoreRealm", "passMonth", "()V"⟩, 9), (⟨"StoreRealm$Carriers", "unload", "(ILStoreRealm$Land;LStoreRealm$Tally;)V"⟩, 6), (⟨"StoreRealm", "obey", "(LStoreRealm$Orders;I)V"⟩, 9)]
theorem lw_r1 : ∀ q ∈ lw_privs_1, lw_okq q := List.forall_mem_cons.mpr ⟨lw_p0, List.forall_mem_cons.mpr ⟨lw_p1, List.forall_mem_cons.mpr ⟨lw_p2, List.forall_mem_cons.mpr ⟨lw_p3, List.forall_mem_cons.mpr ⟨lw_p4, List.forall_mem_cons.mpr ⟨lw_p5, List.forall_mem_cons.mpr ⟨lw_p6, List.forall_mem_cons.mpr ⟨lw_p7, List.forall_mem_cons.mpr ⟨lw_p8, List.forall_mem_cons.mpr ⟨lw_p9, List.forall_mem_cons.mpr ⟨lw_p10, List.forall_mem_cons.mpr ⟨lw_p11, List.forall_mem_cons.mpr ⟨lw_p12, List.forall_mem_cons.mpr ⟨lw_p13, List.forall_mem_cons.mpr ⟨lw_p14, List.forall_mem_cons.mpr ⟨lw_p15, fun _ h => absurd h List.not_mem_nil⟩⟩⟩⟩⟩⟩⟩⟩⟩⟩⟩⟩⟩⟩⟩⟩
theorem lw_p16 : lw_okq (⟨"StoreRealm$Planner", "gatherFeasts", "(LStoreRealm$Land;LStoreRealm$Feasts;I)V"⟩, 17) := ⟨⟨by decide +kernel, by decide +kernel⟩, List.mem_of_getElem? (i := 288) (by decide +kernel), List.mem_of_getElem? (i := 747) (by decide +kernel), List.mem_of_getElem? (i := 748) (by decide +kernel)⟩
theorem lw_p17 : lw_okq (⟨"StoreRealm$Planner", "gatherPiles", "(LStoreRealm$Land;I)V"⟩, 17) := ⟨⟨by decide +kernel, by decide +kernel⟩, List.mem_of_getElem? (i := 288) (by decide +kernel), List.mem_of_getElem? (i := 751) (by decide +kernel), List.mem_of_getElem? (i := 752) (by decide +kernel)⟩
theorem lw_p18 : lw_okq (⟨"StoreRealm$Planner", "feastsServedAt", "(I)I"⟩, 17) := ⟨⟨by decide +kernel, by decide +kernel⟩, List.mem_of_getElem? (i := 288) (by decide +kernel), List.mem_of_getElem? (i := 755) (by decide +kernel), List.mem_of_getElem? (i := 756) (by decide +kernel)⟩
theorem lw_p19 : lw_okq (⟨"StoreRealm$Planner", "findDays", "(LStoreRealm$Land;)V"⟩, 17) := ⟨⟨by decide +kernel, by decide +kernel⟩, List.mem_of_getElem? (i := 288) (by decide +kernel), List.mem_of_getElem? (i := 759) (by decide +kernel), List.mem_of_getElem? (i := 760) (by decide +kernel)⟩
theorem lw_p20 : lw_okq (⟨"StoreRealm$Planner", "cheapestFeast", "()I"⟩, 17) := ⟨⟨by decide +kernel, by decide +kernel⟩, List.mem_of_getElem? (i := 288) (by decide +kernel), List.mem_of_getElem? (i := 768) (by decide +kernel), List.mem_of_getElem? (i := 769) (by decide +kernel)⟩
theorem lw_p21 : lw_okq (⟨"StoreRealm$Planner", "goForth", "()Z"⟩, 17) := ⟨⟨by decide +kernel, by decide +kernel⟩, List.mem_of_getElem? (i := 288) (by decide +kernel), List.mem_of_getElem? (i := 774) (by decide +kernel), List.mem_of_getElem? (i := 775) (by decide +kernel)⟩
theorem lw_p22 : lw_okq (⟨"StoreRealm$Planner", "goBack", "()Z"⟩, 17) := ⟨⟨by decide +kernel, by decide +kernel⟩, List.mem_of_getElem? (i := 288) (by decide +kernel), List.mem_of_getElem? (i := 778) (by decide +kernel), List.mem_of_getElem? (i := 779) (by decide +kernel)⟩
theorem lw_p23 : lw_okq (⟨"StoreRealm$Planner", "giveAlong", "(I)V"⟩, 17) := ⟨⟨by decide +kernel, by decide +kernel⟩, List.mem_of_getElem? (i := 288) (by decide +kernel), List.mem_of_getElem? (i := 782) (by decide +kernel), List.mem_of_getElem? (i := 783) (by decide +kernel)⟩
theorem lw_p24 : lw_okq (⟨"StoreRealm$Planner", "measuresAlong", "(I)I"⟩, 17) := ⟨⟨by decide +kernel, by decide +kernel⟩, List.mem_of_getElem? (i := 288) (by decide +kernel), List.mem_of_getElem? (i := 786) (by decide +kernel), List.mem_of_getElem? (i := 787) (by decide +kernel)⟩
theorem lw_p25 : lw_okq (⟨"StoreRealm$Ledger", "gatherVoices", "(III)V"⟩, 10) := ⟨⟨by decide +kernel, by decide +kernel⟩, List.mem_of_getElem? (i := 348) (by decide +kernel), List.mem_of_getElem? (i := 838) (by decide +kernel), List.mem_of_getElem? (i := 839) (by decide +kernel)⟩
theorem lw_p26 : lw_okq (⟨"StoreRealm$Ledger", "voicesFor", "(I)I"⟩, 10) := ⟨⟨by decide +kernel, by decide +kernel⟩, List.mem_of_getElem? (i := 348) (by decide +kernel), List.mem_of_getElem? (i := 843) (by decide +kernel), List.mem_of_getElem? (i := 844) (by decide +kernel)⟩
theorem lw_p27 : lw_okq (⟨"StoreRealmModel", "isTown", "(I)Z"⟩, 70) := ⟨⟨by decide +kernel, by decide +kernel⟩, List.mem_of_getElem? (i := 860) (by decide +kernel), List.mem_of_getElem? (i := 1086) (by decide +kernel), List.mem_of_getElem? (i := 1087) (by decide +kernel)⟩
theorem lw_p28 : lw_okq (⟨"StoreRealmModel", "comeIn", "(IIII)I"⟩, 70) := ⟨⟨by decide +kernel, by decide +kernel⟩, List.mem_of_getElem? (i := 860) (by decide +kernel), List.mem_of_getElem? (i := 1104) (by decide +kernel), List.mem_of_getElem? (i := 1105) (by decide +kernel)⟩
theorem lw_p29 : lw_okq (⟨"StoreRealmModel", "space", "(I)I"⟩, 70) := ⟨⟨by decide +kernel, by decide +kernel⟩, List.mem_of_getElem? (i := 860) (by decide +kernel), List.mem_of_getElem? (i := 1108) (by decide +kernel), List.mem_of_getElem? (i := 1109) (by decide +kernel)⟩
theorem lw_p30 : lw_okq (⟨"StoreRealmModel", "inStore", "(I)I"⟩, 70) := ⟨⟨by decide +kernel, by decide +kernel⟩, List.mem_of_getElem? (i := 860) (by decide +kernel), List.mem_of_getElem? (i := 1112) (by decide +kernel), List.mem_of_getElem? (i := 1113) (by decide +kernel)⟩
theorem lw_p31 : lw_okq (⟨"StoreRealmModel", "goOut", "(III)I"⟩, 70) := ⟨⟨by decide +kernel, by decide +kernel⟩, List.mem_of_getElem? (i := 860) (by decide +kernel), List.mem_of_getElem? (i := 1123) (by decide +kernel), List.mem_of_getElem? (i := 1124) (by decide +kernel)⟩
def lw_privs_2 : List (MethodName × Nat) := [(⟨"StoreRealm$Planner", "gatherFeasts", "(LStoreRealm$Land;LStoreRealm$Feasts;I)V"⟩, 17), (⟨"StoreRealm$Planner", "gatherPiles", "(LStoreRealm$Land;I)V"⟩, 17), (⟨"StoreRealm$Planner", "feastsServedAt", "(I)I"⟩, 17), (⟨"StoreRealm$Planner", "findDays", "(LStoreRealm$Land;)V"⟩, 17), (⟨"StoreRealm$Planner", "cheapestFeast", "()I"⟩, 17), (⟨"StoreRealm$Planner", "goForth", "()Z"⟩, 17), (⟨"StoreRealm$Planner", "goBack", "()Z"⟩, 17), (⟨"StoreRealm$Planner", "giveAlong", "(I)V"⟩, 17), (⟨"StoreRealm$Planner", "measuresAlong", "(I)I"⟩, 17), (⟨"StoreRealm$Ledger", "gatherVoices", "(III)V"⟩, 10), (⟨"StoreRealm$Ledger", "voicesFor", "(I)I"⟩, 10), (⟨"StoreRealmModel", "isTown", "(I)Z"⟩, 70), (⟨"StoreRealmModel", "comeIn", "(IIII)I"⟩, 70), (⟨"StoreRealmModel", "space", "(I)I"⟩, 70), (⟨"StoreRealmModel", "inStore", "(I)I"⟩, 70), (⟨"StoreRealmModel", "goOut", "(III)I"⟩, 70)]
theorem lw_r2 : ∀ q ∈ lw_privs_2, lw_okq q := List.forall_mem_cons.mpr ⟨lw_p16, List.forall_mem_cons.mpr ⟨lw_p17, List.forall_mem_cons.mpr ⟨lw_p18, List.forall_mem_cons.mpr ⟨lw_p19, List.forall_mem_cons.mpr ⟨lw_p20, List.forall_mem_cons.mpr ⟨lw_p21, List.forall_mem_cons.mpr ⟨lw_p22, List.forall_mem_cons.mpr ⟨lw_p23, List.forall_mem_cons.mpr ⟨lw_p24, List.forall_mem_cons.mpr ⟨lw_p25, List.forall_mem_cons.mpr ⟨lw_p26, List.forall_mem_cons.mpr ⟨lw_p27, List.forall_mem_cons.mpr ⟨lw_p28, List.forall_mem_cons.mpr ⟨lw_p29, List.forall_mem_cons.mpr ⟨lw_p30, List.forall_mem_cons.mpr ⟨lw_p31, fun _ h => absurd h List.not_mem_nil⟩⟩⟩⟩⟩⟩⟩⟩⟩⟩⟩⟩⟩⟩⟩⟩
theorem lw_p32 : lw_okq (⟨"StoreRealmModel", "stockOf", "(II)I"⟩, 70) := ⟨⟨by decide +kernel, by decide +kernel⟩, List.mem_of_getElem? (i := 860) (by decide +kernel), List.mem_of_getElem? (i := 1131) (by decide +kernel), List.mem_of_getElem? (i := 1132) (by decide +kernel)⟩
theorem lw_p33 : lw_okq (⟨"StoreRealmModel", "next", "()V"⟩, 70) := ⟨⟨by decide +kernel, by decide +kernel⟩, List.mem_of_getElem? (i := 860) (by decide +kernel), List.mem_of_getElem? (i := 1139) (by decide +kernel), List.mem_of_getElem? (i := 1140) (by decide +kernel)⟩
theorem lw_p34 : lw_okq (⟨"StoreRealmModel", "sign", "(I)I"⟩, 70) := ⟨⟨by decide +kernel, by decide +kernel⟩, List.mem_of_getElem? (i := 860) (by decide +kernel), List.mem_of_getElem? (i := 1143) (by decide +kernel), List.mem_of_getElem? (i := 1144) (by decide +kernel)⟩
theorem lw_p35 : lw_okq (⟨"StoreRealmModel", "isGood", "()Z"⟩, 70) := ⟨⟨by decide +kernel, by decide +kernel⟩, List.mem_of_getElem? (i := 860) (by decide +kernel), List.mem_of_getElem? (i := 1153) (by decide +kernel), List.mem_of_getElem? (i := 1154) (by decide +kernel)⟩
theorem lw_p36 : lw_okq (⟨"StoreRealmModel", "readLine", "()V"⟩, 70) := ⟨⟨by decide +kernel, by decide +kernel⟩, List.mem_of_getElem? (i := 860) (by decide +kernel), List.mem_of_getElem? (i := 1157) (by decide +kernel), List.mem_of_getElem? (i := 1158) (by decide +kernel)⟩
theorem lw_p37 : lw_okq (⟨"StoreRealmModel", "isWord", "(J)Z"⟩, 70) := ⟨⟨by decide +kernel, by decide +kernel⟩, List.mem_of_getElem? (i := 860) (by decide +kernel), List.mem_of_getElem? (i := 1162) (by decide +kernel), List.mem_of_getElem? (i := 1163) (by decide +kernel)⟩
theorem lw_p38 : lw_okq (⟨"StoreRealmModel", "wrong", "()V"⟩, 70) := ⟨⟨by decide +kernel, by decide +kernel⟩, List.mem_of_getElem? (i := 860) (by decide +kernel), List.mem_of_getElem? (i := 1167) (by decide +kernel), List.mem_of_getElem? (i := 1168) (by decide +kernel)⟩
theorem lw_p39 : lw_okq (⟨"StoreRealmModel", "fails", "(II)V"⟩, 70) := ⟨⟨by decide +kernel, by decide +kernel⟩, List.mem_of_getElem? (i := 860) (by decide +kernel), List.mem_of_getElem? (i := 1171) (by decide +kernel), List.mem_of_getElem? (i := 1172) (by decide +kernel)⟩
theorem lw_p40 : lw_okq (⟨"StoreRealmModel", "e", "()V"⟩, 70) := ⟨⟨by decide +kernel, by decide +kernel⟩, List.mem_of_getElem? (i := 860) (by decide +kernel), List.mem_of_getElem? (i := 1175) (by decide +kernel), List.mem_of_getElem? (i := 1176) (by decide +kernel)⟩
theorem lw_p41 : lw_okq (⟨"StoreRealmModel", "pile", "(I)V"⟩, 70) := ⟨⟨by decide +kernel, by decide +kernel⟩, List.mem_of_getElem? (i := 860) (by decide +kernel), List.mem_of_getElem? (i := 1179) (by decide +kernel), List.mem_of_getElem? (i := 1180) (by decide +kernel)⟩
theorem lw_p42 : lw_okq (⟨"StoreRealmModel", "one", "()Z"⟩, 70) := ⟨⟨by decide +kernel, by decide +kernel⟩, List.mem_of_getElem? (i := 860) (by decide +kernel), List.mem_of_getElem? (i := 1183) (by decide +kernel), List.mem_of_getElem? (i := 1184) (by decide +kernel)⟩
theorem lw_p43 : lw_okq (⟨"StoreRealmModel", "is", "(I)Z"⟩, 70) := ⟨⟨by decide +kernel, by decide +kernel⟩, List.mem_of_getElem? (i := 860) (by decide +kernel), List.mem_of_getElem? (i := 1187) (by decide +kernel), List.mem_of_getElem? (i := 1188) (by decide +kernel)⟩
theorem lw_p44 : lw_okq (⟨"StoreRealmModel", "readSum", "()V"⟩, 70) := ⟨⟨by decide +kernel, by decide +kernel⟩, List.mem_of_getElem? (i := 860) (by decide +kernel), List.mem_of_getElem? (i := 1192) (by decide +kernel), List.mem_of_getElem? (i := 1193) (by decide +kernel)⟩
theorem lw_p45 : lw_okq (⟨"StoreRealmModel", "term", "()V"⟩, 70) := ⟨⟨by decide +kernel, by decide +kernel⟩, List.mem_of_getElem? (i := 860) (by decide +kernel), List.mem_of_getElem? (i := 1196) (by decide +kernel), List.mem_of_getElem? (i := 1197) (by decide +kernel)⟩
theorem lw_p46 : lw_okq (⟨"StoreRealmModel", "aNumber", "(I)I"⟩, 70) := ⟨⟨by decide +kernel, by decide +kernel⟩, List.mem_of_getElem? (i := 860) (by decide +kernel), List.mem_of_getElem? (i := 1205) (by decide +kernel), List.mem_of_getElem? (i := 1206) (by decide +kernel)⟩
theorem lw_p47 : lw_okq (⟨"StoreRealmModel", "must", "(Z)V"⟩, 70) := ⟨⟨by decide +kernel, by decide +kernel⟩, List.mem_of_getElem? (i := 860) (by decide +kernel), List.mem_of_getElem? (i := 1209) (by decide +kernel), List.mem_of_getElem? (i := 1210) (by decide +kernel)⟩
def lw_privs_3 : List (MethodName × Nat) := [(⟨"StoreRealmModel", "stockOf", "(II)I"⟩, 70), (⟨"StoreRealmModel", "next", "()V"⟩, 70), (⟨"StoreRealmModel", "sign", "(I)I"⟩, 70), (⟨"StoreRealmModel", "isGood", "()Z"⟩, 70), (⟨"StoreRealmModel", "readLine", "()V"⟩, 70), (⟨"StoreRealmModel", "isWord", "(J)Z"⟩, 70), (⟨"StoreRealmModel", "wrong", "()V"⟩, 70), (⟨"StoreRealmModel", "fails", "(II)V"⟩, 70), (⟨"StoreRealmModel", "e", "()V"⟩, 70), (⟨"StoreRealmModel", "pile", "(I)V"⟩, 70), (⟨"StoreRealmModel", "one", "()Z"⟩, 70), (⟨"StoreRealmModel", "is", "(I)Z"⟩, 70), (⟨"StoreRealmModel", "readSum", "()V"⟩, 70), (⟨"StoreRealmModel", "term", "()V"⟩, 70), (⟨"StoreRealmModel", "aNumber", "(I)I"⟩, 70), (⟨"StoreRealmModel", "must", "(Z)V"⟩, 70)]
theorem lw_r3 : ∀ q ∈ lw_privs_3, lw_okq q := List.forall_mem_cons.mpr ⟨lw_p32, List.forall_mem_cons.mpr ⟨lw_p33, List.forall_mem_cons.mpr ⟨lw_p34, List.forall_mem_cons.mpr ⟨lw_p35, List.forall_mem_cons.mpr ⟨lw_p36, List.forall_mem_cons.mpr ⟨lw_p37, List.forall_mem_cons.mpr ⟨lw_p38, List.forall_mem_cons.mpr ⟨lw_p39, List.forall_mem_cons.mpr ⟨lw_p40, List.forall_mem_cons.mpr ⟨lw_p41, List.forall_mem_cons.mpr ⟨lw_p42, List.forall_mem_cons.mpr ⟨lw_p43, List.forall_mem_cons.mpr ⟨lw_p44, List.forall_mem_cons.mpr ⟨lw_p45, List.forall_mem_cons.mpr ⟨lw_p46, List.forall_mem_cons.mpr ⟨lw_p47, fun _ h => absurd h List.not_mem_nil⟩⟩⟩⟩⟩⟩⟩⟩⟩⟩⟩⟩⟩⟩⟩⟩
theorem lw_p48 : lw_okq (⟨"StoreRealmModel", "aKind", "()I"⟩, 70) := ⟨⟨by decide +kernel, by decide +kernel⟩, List.mem_of_getElem? (i := 860) (by decide +kernel), List.mem_of_getElem? (i := 1213) (by decide +kernel), List.mem_of_getElem? (i := 1214) (by decide +kernel)⟩
theorem lw_p49 : lw_okq (⟨"StoreRealmModel", "kindHere", "()I"⟩, 70) := ⟨⟨by decide +kernel, by decide +kernel⟩, List.mem_of_getElem? (i := 860) (by decide +kernel), List.mem_of_getElem? (i := 1217) (by decide +kernel), List.mem_of_getElem? (i := 1218) (by decide +kernel)⟩
theorem lw_p50 : lw_okq (⟨"StoreRealmModel", "step", "(III)V"⟩, 70) := ⟨⟨by decide +kernel, by decide +kernel⟩, List.mem_of_getElem? (i := 860) (by decide +kernel), List.mem_of_getElem? (i := 1224) (by decide +kernel), List.mem_of_getElem? (i := 1225) (by decide +kernel)⟩
theorem lw_p51 : lw_okq (⟨"StoreRealmModel", "behind", "()Z"⟩, 70) := ⟨⟨by decide +kernel, by decide +kernel⟩, List.mem_of_getElem? (i := 860) (by decide +kernel), List.mem_of_getElem? (i := 1228) (by decide +kernel), List.mem_of_getElem? (i := 1229) (by decide +kernel)⟩
theorem lw_p52 : lw_okq (⟨"StoreRealmModel", "arrive", "()V"⟩, 70) := ⟨⟨by decide +kernel, by decide +kernel⟩, List.mem_of_getElem? (i := 860) (by decide +kernel), List.mem_of_getElem? (i := 1244) (by decide +kernel), List.mem_of_getElem? (i := 1245) (by decide +kernel)⟩
theorem lw_p53 : lw_okq (⟨"StoreRealmModel", "age", "()V"⟩, 70) := ⟨⟨by decide +kernel, by decide +kernel⟩, List.mem_of_getElem? (i := 860) (by decide +kernel), List.mem_of_getElem? (i := 1248) (by decide +kernel), List.mem_of_getElem? (i := 1249) (by decide +kernel)⟩
theorem lw_p54 : lw_okq (⟨"StoreRealmModel", "eat", "()V"⟩, 70) := ⟨⟨by decide +kernel, by decide +kernel⟩, List.mem_of_getElem? (i := 860) (by decide +kernel), List.mem_of_getElem? (i := 1252) (by decide +kernel), List.mem_of_getElem? (i := 1253) (by decide +kernel)⟩
theorem lw_p55 : lw_okq (⟨"StoreRealmModel", "holds", "(I)Z"⟩, 70) := ⟨⟨by decide +kernel, by decide +kernel⟩, List.mem_of_getElem? (i := 860) (by decide +kernel), List.mem_of_getElem? (i := 1256) (by decide +kernel), List.mem_of_getElem? (i := 1257) (by decide +kernel)⟩
theorem lw_p56 : lw_okq (⟨"StoreRealmModel", "leaf", "(III)I"⟩, 70) := ⟨⟨by decide +kernel, by decide +kernel⟩, List.mem_of_getElem? (i := 860) (by decide +kernel), List.mem_of_getElem? (i := 1260) (by decide +kernel), List.mem_of_getElem? (i := 1261) (by decide +kernel)⟩
theorem lw_p57 : lw_okq (⟨"StoreRealmModel", "oldOf", "(II)I"⟩, 70) := ⟨⟨by decide +kernel, by decide +kernel⟩, List.mem_of_getElem? (i := 860) (by decide +kernel), List.mem_of_getElem? (i := 1264) (by decide +kernel), List.mem_of_getElem? (i := 1265) (by decide +kernel)⟩
theorem lw_p58 : lw_okq (⟨"StoreRealmModel", "send", "(I)V"⟩, 70) := ⟨⟨by decide +kernel, by decide +kernel⟩, List.mem_of_getElem? (i := 860) (by decide +kernel), List.mem_of_getElem? (i := 1271) (by decide +kernel), List.mem_of_getElem? (i := 1272) (by decide +kernel)⟩
theorem lw_p59 : lw_okq (⟨"StoreRealmModel", "feedAll", "()V"⟩, 70) := ⟨⟨by decide +kernel, by decide +kernel⟩, List.mem_of_getElem? (i := 860) (by decide +kernel), List.mem_of_getElem? (i := 1294) (by decide +kernel), List.mem_of_getElem? (i := 1295) (by decide +kernel)⟩
theorem lw_p60 : lw_okq (⟨"StoreRealmModel", "giveMore", "(I)Z"⟩, 70) := ⟨⟨by decide +kernel, by decide +kernel⟩, List.mem_of_getElem? (i := 860) (by decide +kernel), List.mem_of_getElem? (i := 1298) (by decide +kernel), List.mem_of_getElem? (i := 1299) (by decide +kernel)⟩
theorem lw_p61 : lw_okq (⟨"StoreRealmModel", "measure", "(I)V"⟩, 70) := ⟨⟨by decide +kernel, by decide +kernel⟩, List.mem_of_getElem? (i := 860) (by decide +kernel), List.mem_of_getElem? (i := 1302) (by decide +kernel), List.mem_of_getElem? (i := 1303) (by decide +kernel)⟩
theorem lw_p62 : lw_okq (⟨"StoreRealmModel", "nearer", "(I)Z"⟩, 70) := ⟨⟨by decide +kernel, by decide +kernel⟩, List.mem_of_getElem? (i := 860) (by decide +kernel), List.mem_of_getElem? (i := 1307) (by decide +kernel), List.mem_of_getElem? (i := 1308) (by decide +kernel)⟩
theorem lw_p63 : lw_okq (⟨"StoreRealmModel", "canGo", "(II)Z"⟩, 70) := ⟨⟨by decide +kernel, by decide +kernel⟩, List.mem_of_getElem? (i := 860) (by decide +kernel), List.mem_of_getElem? (i := 1311) (by decide +kernel), List.mem_of_getElem? (i := 1312) (by decide +kernel)⟩
def lw_privs_4 : List (MethodName × Nat) := [(⟨"StoreRealmModel", "aKind", "()I"⟩, 70), (⟨"StoreRealmModel", "kindHere", "()I"⟩, 70), (⟨"StoreRealmModel", "step", "(III)V"⟩, 70), (⟨"StoreRealmModel", "behind", "()Z"⟩, 70), (⟨"StoreRealmModel", "arrive", "()V"⟩, 70), (⟨"StoreRealmModel", "age", "()V"⟩, 70), (⟨"StoreRealmModel", "eat", "()V"⟩, 70), (⟨"StoreRealmModel", "holds", "(I)Z"⟩, 70), (⟨"StoreRealmModel", "leaf", "(III)I"⟩, 70), (⟨"StoreRealmModel", "oldOf", "(II)I"⟩, 70), (⟨"StoreRealmModel", "send", "(I)V"⟩, 70), (⟨"StoreRealmModel", "feedAll", "()V"⟩, 70), (⟨"StoreRealmModel", "giveMore", "(I)Z"⟩, 70), (⟨"StoreRealmModel", "measure", "(I)V"⟩, 70), (⟨"StoreRealmModel", "nearer", "(I)Z"⟩, 70), (⟨"StoreRealmModel", "canGo", "(II)Z"⟩, 70)]
theorem lw_r4 : ∀ q ∈ lw_privs_4, lw_okq q := List.forall_mem_cons.mpr ⟨lw_p48, List.forall_mem_cons.mpr ⟨lw_p49, List.forall_mem_cons.mpr ⟨lw_p50, List.forall_mem_cons.mpr ⟨lw_p51, List.forall_mem_cons.mpr ⟨lw_p52, List.forall_mem_cons.mpr ⟨lw_p53, List.forall_mem_cons.mpr ⟨lw_p54, List.forall_mem_cons.mpr ⟨lw_p55, List.forall_mem_cons.mpr ⟨lw_p56, List.forall_mem_cons.mpr ⟨lw_p57, List.forall_mem_cons.mpr ⟨lw_p58, List.forall_mem_cons.mpr ⟨lw_p59, List.forall_mem_cons.mpr ⟨lw_p60, List.forall_mem_cons.mpr ⟨lw_p61, List.forall_mem_cons.mpr ⟨lw_p62, List.forall_mem_cons.mpr ⟨lw_p63, fun _ h => absurd h List.not_mem_nil⟩⟩⟩⟩⟩⟩⟩⟩⟩⟩⟩⟩⟩⟩⟩⟩
theorem lw_p64 : lw_okq (⟨"StoreRealmModel", "daysOf", "(II)I"⟩, 70) := ⟨⟨by decide +kernel, by decide +kernel⟩, List.mem_of_getElem? (i := 860) (by decide +kernel), List.mem_of_getElem? (i := 1315) (by decide +kernel), List.mem_of_getElem? (i := 1316) (by decide +kernel)⟩
theorem lw_p65 : lw_okq (⟨"StoreRealmModel", "lacks", "(II)I"⟩, 70) := ⟨⟨by decide +kernel, by decide +kernel⟩, List.mem_of_getElem? (i := 860) (by decide +kernel), List.mem_of_getElem? (i := 1327) (by decide +kernel), List.mem_of_getElem? (i := 1328) (by decide +kernel)⟩
def lw_privs_5 : List (MethodName × Nat) := [(⟨"StoreRealmModel", "daysOf", "(II)I"⟩, 70), (⟨"StoreRealmModel", "lacks", "(II)I"⟩, 70)]
theorem lw_r5 : ∀ q ∈ lw_privs_5, lw_okq q := List.forall_mem_cons.mpr ⟨lw_p64, List.forall_mem_cons.mpr ⟨lw_p65, fun _ h => absurd h List.not_mem_nil⟩⟩
def lw_privs : List (MethodName × Nat) := lw_privs_1 ++ (lw_privs_2 ++ (lw_privs_3 ++ (lw_privs_4 ++ (lw_privs_5))))
def lw_tbl : List Cond := k2_sels lw_privs ++ tables_1
theorem lw_privs_ok : ∀ q ∈ lw_privs, lw_okq q := by
  show ∀ q ∈ lw_privs_1 ++ (lw_privs_2 ++ (lw_privs_3 ++ (lw_privs_4 ++ (lw_privs_5)))), lw_okq q
  exact List.forall_mem_append.mpr ⟨lw_r1, List.forall_mem_append.mpr ⟨lw_r2, List.forall_mem_append.mpr ⟨lw_r3, List.forall_mem_append.mpr ⟨lw_r4, lw_r5⟩⟩⟩⟩
end
section
def RX0 : String := "StoreRealm$Carriers"
def TX0 : u_T := fun k => match k with
  | 0 => ("StoreRealm$Carriers", "to", "[I", true)
  | 1 => ("StoreRealm$Carriers", "kind", "[I", true)
  | 2 => ("StoreRealm$Carriers", "age", "[I", true)
  | 3 => ("StoreRealm$Carriers", "measures", "[I", true)
  | 4 => ("StoreRealm$Carriers", "arrival", "[I", true)
  | _ => ("StoreRealm$Carriers", "size", "I", false)
def tyX0 : Nat → FieldType := fun k => match k with
  | 0 => .array .int
  | 1 => .array .int
  | 2 => .array .int
  | 3 => .array .int
  | 4 => .array .int
  | _ => .int
theorem nmX0 : ∀ a, a < 6 → ∀ b, b < 6 → a ≠ b → (TX0 a).2.1 ≠ (TX0 b).2.1 := by decide +kernel
theorem tyX0_ok : ∀ k, k < 6 → parseFieldDescriptor (TX0 k).2.2.1 = some (tyX0 k) := by decide +kernel
abbrev cX0_init : ByteArray := prog_2_method_1_code
def yX0_init : MethodName := ⟨RX0, "<init>", "()V"⟩
abbrev cX0_send : ByteArray := prog_2_method_2_code
def yX0_send : MethodName := ⟨RX0, "send", "(IIIII)V"⟩
abbrev cX0_allMeasures : ByteArray := prog_2_method_3_code
def yX0_allMeasures : MethodName := ⟨RX0, "allMeasures", "()I"⟩
abbrev cX0_grow : ByteArray := prog_2_method_4_code
def yX0_grow : MethodName := ⟨RX0, "grow", "()V"⟩
abbrev cX0_arrive : ByteArray := prog_2_method_5_code
def yX0_arrive : MethodName := ⟨RX0, "arrive", "(LStoreRealm$Land;LStoreRealm$Tally;)V"⟩
abbrev cX0_unload : ByteArray := prog_2_method_6_code
def yX0_unload : MethodName := ⟨RX0, "unload", "(ILStoreRealm$Land;LStoreRealm$Tally;)V"⟩
def RX1 : String := "StoreRealm$Feasts"
def TX1 : u_T := fun k => match k with
  | 0 => ("StoreRealm$Feasts", "town", "[I", true)
  | 1 => ("StoreRealm$Feasts", "month", "[I", true)
  | 2 => ("StoreRealm$Feasts", "kind", "[I", true)
  | 3 => ("StoreRealm$Feasts", "measures", "[I", true)
  | _ => ("StoreRealm$Feasts", "size", "I", false)
def tyX1 : Nat → FieldType := fun k => match k with
  | 0 => .array .int
  | 1 => .array .int
  | 2 => .array .int
  | 3 => .array .int
  | _ => .int
theorem nmX1 : ∀ a, a < 5 → ∀ b, b < 5 → a ≠ b → (TX1 a).2.1 ≠ (TX1 b).2.1 := by decide +kernel
theorem tyX1_ok : ∀ k, k < 5 → parseFieldDescriptor (TX1 k).2.2.1 = some (tyX1 k) := by decide +kernel
abbrev cX1_init : ByteArray := prog_3_method_1_code
def yX1_init : MethodName := ⟨RX1, "<init>", "()V"⟩
abbrev cX1_add : ByteArray := prog_3_method_2_code
def yX1_add : MethodName := ⟨RX1, "add", "(IIII)I"⟩
def RX2 : String := "StoreRealm$Land"
def TX2 : u_T := fun k => match k with
  | 0 => ("StoreRealm$Land", "towns", "[LStoreRealm$Town;", true)
  | 1 => ("StoreRealm$Land", "days", "[[I", true)
  | 2 => ("StoreRealm$Land", "keeping", "[I", true)
  | 3 => ("StoreRealm$Land", "townCount", "I", false)
  | 4 => ("StoreRealm$Land", "month", "I", false)
  | _ => ("StoreRealm$Land", "hands", "I", false)
def tyX2 : Nat → FieldType := fun k => match k with
  | 0 => .array (.object "StoreRealm$Town")
  | 1 => .array (.array .int)
  | 2 => .array .int
  | 3 => .int
  | 4 => .int
  | _ => .int
theorem nmX2 : ∀ a, a < 6 → ∀ b, b < 6 → a ≠ b → (TX2 a).2.1 ≠ (TX2 b).2.1 := by decide +kernel
theorem tyX2_ok : ∀ k, k < 6 → parseFieldDescriptor (TX2 k).2.2.1 = some (tyX2 k) := by decide +kernel
abbrev cX2_init : ByteArray := prog_4_method_1_code
def yX2_init : MethodName := ⟨RX2, "<init>", "()V"⟩
abbrev cX2_hasTown : ByteArray := prog_4_method_2_code
def yX2_hasTown : MethodName := ⟨RX2, "hasTown", "(I)Z"⟩
abbrev cX2_found : ByteArray := prog_4_method_3_code
def yX2_found : MethodName := ⟨RX2, "found", "(III)I"⟩
abbrev cX2_growLots : ByteArray := prog_4_method_4_code
def yX2_growLots : MethodName := ⟨RX2, "growLots", "(LStoreRealm$Tally;)V"⟩
abbrev cX2_eat : ByteArray := prog_4_method_5_code
def yX2_eat : MethodName := ⟨RX2, "eat", "(LStoreRealm$Tally;)V"⟩
abbrev cX2_allTens : ByteArray := prog_4_method_6_code
def yX2_allTens : MethodName := ⟨RX2, "allTens", "()I"⟩
abbrev cX2_takeHand : ByteArray := prog_4_method_7_code
def yX2_takeHand : MethodName := ⟨RX2, "takeHand", "(I)V"⟩
def RX3 : String := "StoreRealm$Ledger"
def TX3 : u_T := fun k => match k with
  | 0 => ("StoreRealm$Ledger", "keeper", "[I", true)
  | 1 => ("StoreRealm$Ledger", "subject", "[I", true)
  | 2 => ("StoreRealm$Ledger", "month", "[I", true)
  | 3 => ("StoreRealm$Ledger", "amount", "[I", true)
  | 4 => ("StoreRealm$Ledger", "toldIn", "[I", true)
  | 5 => ("StoreRealm$Ledger", "untoldIn", "[I", true)
  | 6 => ("StoreRealm$Ledger", "size", "I", false)
  | 7 => ("StoreRealm$Ledger", "voice", "[I", true)
  | 8 => ("StoreRealm$Ledger", "bestCount", "I", false)
  | _ => ("StoreRealm$Ledger", "bestVoices", "I", false)
def tyX3 : Nat → FieldType := fun k => match k with
  | 0 => .array .int
  | 1 => .array .int
  | 2 => .array .int
  | 3 => .array .int
  | 4 => .array .int
  | 5 => .array .int
  | 6 => .int
  | 7 => .array .int
  | 8 => .int
  | _ => .int
theorem nmX3 : ∀ a, a < 10 → ∀ b, b < 10 → a ≠ b → (TX3 a).2.1 ≠ (TX3 b).2.1 := by decide +kernel
theorem tyX3_ok : ∀ k, k < 10 → parseFieldDescriptor (TX3 k).2.2.1 = some (tyX3 k) := by decide +kernel
abbrev cX3_init : ByteArray := prog_5_method_1_code
def yX3_init : MethodName := ⟨RX3, "<init>", "()V"⟩
abbrev cX3_add : ByteArray := prog_5_method_2_code
def yX3_add : MethodName := ⟨RX3, "add", "(IIIII)I"⟩
abbrev cX3_withdraw : ByteArray := prog_5_method_3_code
def yX3_withdraw : MethodName := ⟨RX3, "withdraw", "(II)Z"⟩
abbrev cX3_hear : ByteArray := prog_5_method_4_code
def yX3_hear : MethodName := ⟨RX3, "hear", "(III)V"⟩
abbrev cX3_gatherVoices : ByteArray := prog_5_method_5_code
def yX3_gatherVoices : MethodName := ⟨RX3, "gatherVoices", "(III)V"⟩
abbrev cX3_voicesFor : ByteArray := prog_5_method_6_code
def yX3_voicesFor : MethodName := ⟨RX3, "voicesFor", "(I)I"⟩
def RX4 : String := "StoreRealm$OrderBook"
def TX4 : u_T := fun k => match k with
  | 0 => ("StoreRealm$OrderBook", "tokens", "LStoreRealm$Tokens;", true)
  | 1 => ("StoreRealm$OrderBook", "at", "I", false)
  | 2 => ("StoreRealm$OrderBook", "terms", "I", false)
  | 3 => ("StoreRealm$OrderBook", "alike", "Z", false)
  | 4 => ("StoreRealm$OrderBook", "ruling", "LStoreRealm$Orders;", false)
  | 5 => ("StoreRealm$OrderBook", "draft", "LStoreRealm$Orders;", false)
  | 6 => ("StoreRealm$OrderBook", "faultKind", "I", false)
  | _ => ("StoreRealm$OrderBook", "faultPlace", "I", false)
def tyX4 : Nat → FieldType := fun k => match k with
  | 0 => .object "StoreRealm$Tokens"
  | 1 => .int
  | 2 => .int
  | 3 => .boolean
  | 4 => .object "StoreRealm$Orders"
  | 5 => .object "StoreRealm$Orders"
  | 6 => .int
  | _ => .int
theorem nmX4 : ∀ a, a < 8 → ∀ b, b < 8 → a ≠ b → (TX4 a).2.1 ≠ (TX4 b).2.1 := by decide +kernel
theorem tyX4_ok : ∀ k, k < 8 → parseFieldDescriptor (TX4 k).2.2.1 = some (tyX4 k) := by decide +kernel
abbrev cX4_init : ByteArray := prog_6_method_1_code
def yX4_init : MethodName := ⟨RX4, "<init>", "()V"⟩
abbrev cX4_read : ByteArray := prog_6_method_2_code
def yX4_read : MethodName := ⟨RX4, "read", "([BI)I"⟩
abbrev cX4_noteFault : ByteArray := prog_6_method_3_code
def yX4_noteFault : MethodName := ⟨RX4, "noteFault", "()V"⟩
abbrev cX4_here : ByteArray := prog_6_method_4_code
def yX4_here : MethodName := ⟨RX4, "here", "()I"⟩
abbrev cX4_valueHere : ByteArray := prog_6_method_5_code
def yX4_valueHere : MethodName := ⟨RX4, "valueHere", "()I"⟩
abbrev cX4_accept : ByteArray := prog_6_method_6_code
def yX4_accept : MethodName := ⟨RX4, "accept", "(I)Z"⟩
abbrev cX4_readLine : ByteArray := prog_6_method_7_code
def yX4_readLine : MethodName := ⟨RX4, "readLine", "()Z"⟩
abbrev cX4_readEither : ByteArray := prog_6_method_8_code
def yX4_readEither : MethodName := ⟨RX4, "readEither", "(I)Z"⟩
abbrev cX4_readOne : ByteArray := prog_6_method_9_code
def yX4_readOne : MethodName := ⟨RX4, "readOne", "(I)Z"⟩
abbrev cX4_readSum : ByteArray := prog_6_method_10_code
def yX4_readSum : MethodName := ⟨RX4, "readSum", "()Z"⟩
abbrev cX4_readTerm : ByteArray := prog_6_method_11_code
def yX4_readTerm : MethodName := ⟨RX4, "readTerm", "()Z"⟩
def RX5 : String := "StoreRealm$Orders"
def TX5 : u_T := fun k => match k with
  | 0 => ("StoreRealm$Orders", "steps", "[I", true)
  | 1 => ("StoreRealm$Orders", "stepCount", "I", false)
  | 2 => ("StoreRealm$Orders", "open", "[I", true)
  | 3 => ("StoreRealm$Orders", "lines", "I", false)
  | 4 => ("StoreRealm$Orders", "stepsStop", "[I", true)
  | 5 => ("StoreRealm$Orders", "measures", "[I", true)
  | 6 => ("StoreRealm$Orders", "kind", "[I", true)
  | 7 => ("StoreRealm$Orders", "from", "[I", true)
  | _ => ("StoreRealm$Orders", "to", "[I", true)
def tyX5 : Nat → FieldType := fun k => match k with
  | 0 => .array .int
  | 1 => .int
  | 2 => .array .int
  | 3 => .int
  | 4 => .array .int
  | 5 => .array .int
  | 6 => .array .int
  | 7 => .array .int
  | _ => .array .int
theorem nmX5 : ∀ a, a < 9 → ∀ b, b < 9 → a ≠ b → (TX5 a).2.1 ≠ (TX5 b).2.1 := by decide +kernel
theorem tyX5_ok : ∀ k, k < 9 → parseFieldDescriptor (TX5 k).2.2.1 = some (tyX5 k) := by decide +kernel
abbrev cX5_init : ByteArray := prog_7_method_1_code
def yX5_init : MethodName := ⟨RX5, "<init>", "()V"⟩
abbrev cX5_clear : ByteArray := prog_7_method_2_code
def yX5_clear : MethodName := ⟨RX5, "clear", "()V"⟩
abbrev cX5_addStep : ByteArray := prog_7_method_3_code
def yX5_addStep : MethodName := ⟨RX5, "addStep", "(II)V"⟩
abbrev cX5_addLine : ByteArray := prog_7_method_4_code
def yX5_addLine : MethodName := ⟨RX5, "addLine", "(IIII)V"⟩
abbrev cX5_holds : ByteArray := prog_7_method_5_code
def yX5_holds : MethodName := ⟨RX5, "holds", "(ILStoreRealm$Land;)Z"⟩
abbrev cX5_isTerm : ByteArray := prog_7_method_6_code
def yX5_isTerm : MethodName := ⟨RX5, "isTerm", "(I)Z"⟩
abbrev cX5_termValue : ByteArray := prog_7_method_7_code
def yX5_termValue : MethodName := ⟨RX5, "termValue", "(IILStoreRealm$Land;)I"⟩
abbrev cX5_join : ByteArray := prog_7_method_8_code
def yX5_join : MethodName := ⟨RX5, "join", "(III)I"⟩
def RX6 : String := "StoreRealm$Planner"
def TX6 : u_T := fun k => match k with
  | 0 => ("StoreRealm$Planner", "feastCount", "I", false)
  | 1 => ("StoreRealm$Planner", "feastTown", "[I", true)
  | 2 => ("StoreRealm$Planner", "feastMonth", "[I", true)
  | 3 => ("StoreRealm$Planner", "oldestServing", "[I", true)
  | 4 => ("StoreRealm$Planner", "wanting", "[I", true)
  | 5 => ("StoreRealm$Planner", "feastCost", "[I", true)
  | 6 => ("StoreRealm$Planner", "feastFrom", "[I", true)
  | 7 => ("StoreRealm$Planner", "pileCount", "I", false)
  | 8 => ("StoreRealm$Planner", "pileTown", "[I", true)
  | 9 => ("StoreRealm$Planner", "pileAge", "[I", true)
  | 10 => ("StoreRealm$Planner", "left", "[I", true)
  | 11 => ("StoreRealm$Planner", "pileCost", "[I", true)
  | 12 => ("StoreRealm$Planner", "pileFrom", "[I", true)
  | 13 => ("StoreRealm$Planner", "days", "[I", true)
  | 14 => ("StoreRealm$Planner", "given", "[I", true)
  | 15 => ("StoreRealm$Planner", "measuresGiven", "I", false)
  | _ => ("StoreRealm$Planner", "measureDays", "I", false)
def tyX6 : Nat → FieldType := fun k => match k with
  | 0 => .int
  | 1 => .array .int
  | 2 => .array .int
  | 3 => .array .int
  | 4 => .array .int
  | 5 => .array .int
  | 6 => .array .int
  | 7 => .int
  | 8 => .array .int
  | 9 => .array .int
  | 10 => .array .int
  | 11 => .array .int
  | 12 => .array .int
  | 13 => .array .int
  | 14 => .array .int
  | 15 => .int
  | _ => .int
theorem nmX6 : ∀ a, a < 17 → ∀ b, b < 17 → a ≠ b → (TX6 a).2.1 ≠ (TX6 b).2.1 := by decide +kernel
theorem tyX6_ok : ∀ k, k < 17 → parseFieldDescriptor (TX6 k).2.2.1 = some (tyX6 k) := by decide +kernel
abbrev cX6_init : ByteArray := prog_8_method_1_code
def yX6_init : MethodName := ⟨RX6, "<init>", "()V"⟩
abbrev cX6_plan : ByteArray := prog_8_method_2_code
def yX6_plan : MethodName := ⟨RX6, "plan", "(LStoreRealm$Land;LStoreRealm$Feasts;)V"⟩
abbrev cX6_gatherFeasts : ByteArray := prog_8_method_3_code
def yX6_gatherFeasts : MethodName := ⟨RX6, "gatherFeasts", "(LStoreRealm$Land;LStoreRealm$Feasts;I)V"⟩
abbrev cX6_gatherPiles : ByteArray := prog_8_method_4_code
def yX6_gatherPiles : MethodName := ⟨RX6, "gatherPiles", "(LStoreRealm$Land;I)V"⟩
abbrev cX6_feastsServedAt : ByteArray := prog_8_method_5_code
def yX6_feastsServedAt : MethodName := ⟨RX6, "feastsServedAt", "(I)I"⟩
abbrev cX6_findDays : ByteArray := prog_8_method_6_code
def yX6_findDays : MethodName := ⟨RX6, "findDays", "(LStoreRealm$Land;)V"⟩
abbrev cX6_pair : ByteArray := prog_8_method_7_code
def yX6_pair : MethodName := ⟨RX6, "pair", "(II)I"⟩
abbrev cX6_cheapestFeast : ByteArray := prog_8_method_8_code
def yX6_cheapestFeast : MethodName := ⟨RX6, "cheapestFeast", "()I"⟩
abbrev cX6_goForth : ByteArray := prog_8_method_9_code
def yX6_goForth : MethodName := ⟨RX6, "goForth", "()Z"⟩
abbrev cX6_goBack : ByteArray := prog_8_method_10_code
def yX6_goBack : MethodName := ⟨RX6, "goBack", "()Z"⟩
abbrev cX6_giveAlong : ByteArray := prog_8_method_11_code
def yX6_giveAlong : MethodName := ⟨RX6, "giveAlong", "(I)V"⟩
abbrev cX6_measuresAlong : ByteArray := prog_8_method_12_code
def yX6_measuresAlong : MethodName := ⟨RX6, "measuresAlong", "(I)I"⟩
def RX7 : String := "StoreRealm$Tally"
def TX7 : u_T := fun k => match k with
  | 0 => ("StoreRealm$Tally", "hunger", "I", false)
  | 1 => ("StoreRealm$Tally", "spoilt", "I", false)
  | 2 => ("StoreRealm$Tally", "lost", "I", false)
  | _ => ("StoreRealm$Tally", "arrived", "I", false)
def tyX7 : Nat → FieldType := fun k => match k with
  | 0 => .int
  | 1 => .int
  | 2 => .int
  | _ => .int
theorem nmX7 : ∀ a, a < 4 → ∀ b, b < 4 → a ≠ b → (TX7 a).2.1 ≠ (TX7 b).2.1 := by decide +kernel
theorem tyX7_ok : ∀ k, k < 4 → parseFieldDescriptor (TX7 k).2.2.1 = some (tyX7 k) := by decide +kernel
abbrev cX7_init : ByteArray := prog_9_method_1_code
def yX7_init : MethodName := ⟨RX7, "<init>", "()V"⟩
def RX8 : String := "StoreRealm$Tokens"
def TX8 : u_T := fun k => match k with
  | 0 => ("StoreRealm$Tokens", "what", "[B", true)
  | 1 => ("StoreRealm$Tokens", "value", "[I", true)
  | 2 => ("StoreRealm$Tokens", "place", "[S", true)
  | _ => ("StoreRealm$Tokens", "size", "I", false)
def tyX8 : Nat → FieldType := fun k => match k with
  | 0 => .array .byte
  | 1 => .array .int
  | 2 => .array .short
  | _ => .int
theorem nmX8 : ∀ a, a < 4 → ∀ b, b < 4 → a ≠ b → (TX8 a).2.1 ≠ (TX8 b).2.1 := by decide +kernel
theorem tyX8_ok : ∀ k, k < 4 → parseFieldDescriptor (TX8 k).2.2.1 = some (tyX8 k) := by decide +kernel
abbrev cX8_init : ByteArray := prog_10_method_1_code
def yX8_init : MethodName := ⟨RX8, "<init>", "()V"⟩
abbrev cX8_scan : ByteArray := prog_10_method_2_code
def yX8_scan : MethodName := ⟨RX8, "scan", "([BI)V"⟩
abbrev cX8_add : ByteArray := prog_10_method_3_code
def yX8_add : MethodName := ⟨RX8, "add", "(III)V"⟩
abbrev cX8_addNumber : ByteArray := prog_10_method_4_code
def yX8_addNumber : MethodName := ⟨RX8, "addNumber", "([BII)I"⟩
abbrev cX8_addName : ByteArray := prog_10_method_5_code
def yX8_addName : MethodName := ⟨RX8, "addName", "([BII)I"⟩
abbrev cX8_isTownName : ByteArray := prog_10_method_6_code
def yX8_isTownName : MethodName := ⟨RX8, "isTownName", "([BII)Z"⟩
abbrev cX8_kindOf : ByteArray := prog_10_method_7_code
def yX8_kindOf : MethodName := ⟨RX8, "kindOf", "([BII)I"⟩
abbrev cX8_wordOf : ByteArray := prog_10_method_8_code
def yX8_wordOf : MethodName := ⟨RX8, "wordOf", "([BII)I"⟩
abbrev cX8_spells : ByteArray := prog_10_method_9_code
def yX8_spells : MethodName := ⟨RX8, "spells", "(Ljava/lang/String;[BII)Z"⟩
abbrev cX8_isLetter : ByteArray := prog_10_method_10_code
def yX8_isLetter : MethodName := ⟨RX8, "isLetter", "(I)Z"⟩
abbrev cX8_isDigit : ByteArray := prog_10_method_11_code
def yX8_isDigit : MethodName := ⟨RX8, "isDigit", "(I)Z"⟩
abbrev cX8_isSign : ByteArray := prog_10_method_12_code
def yX8_isSign : MethodName := ⟨RX8, "isSign", "(I)Z"⟩
def RX9 : String := "StoreRealm$Town"
def TX9 : u_T := fun k => match k with
  | 0 => ("StoreRealm$Town", "room", "I", false)
  | 1 => ("StoreRealm$Town", "people", "I", false)
  | 2 => ("StoreRealm$Town", "tens", "I", false)
  | 3 => ("StoreRealm$Town", "handsGiven", "I", false)
  | 4 => ("StoreRealm$Town", "held", "[I", true)
  | _ => ("StoreRealm$Town", "lots", "[[I", true)
def tyX9 : Nat → FieldType := fun k => match k with
  | 0 => .int
  | 1 => .int
  | 2 => .int
  | 3 => .int
  | 4 => .array .int
  | _ => .array (.array .int)
theorem nmX9 : ∀ a, a < 6 → ∀ b, b < 6 → a ≠ b → (TX9 a).2.1 ≠ (TX9 b).2.1 := by decide +kernel
theorem tyX9_ok : ∀ k, k < 6 → parseFieldDescriptor (TX9 k).2.2.1 = some (tyX9 k) := by decide +kernel
abbrev cX9_init : ByteArray := prog_11_method_1_code
def yX9_init : MethodName := ⟨RX9, "<init>", "()V"⟩
abbrev cX9_roomLeft : ByteArray := prog_11_method_2_code
def yX9_roomLeft : MethodName := ⟨RX9, "roomLeft", "()I"⟩
abbrev cX9_store : ByteArray := prog_11_method_3_code
def yX9_store : MethodName := ⟨RX9, "store", "(III)I"⟩
abbrev cX9_removeOfAge : ByteArray := prog_11_method_4_code
def yX9_removeOfAge : MethodName := ⟨RX9, "removeOfAge", "(III)I"⟩
abbrev cX9_removeOldest : ByteArray := prog_11_method_5_code
def yX9_removeOldest : MethodName := ⟨RX9, "removeOldest", "(II)I"⟩
abbrev cX9_measuresOfTheOldest : ByteArray := prog_11_method_6_code
def yX9_measuresOfTheOldest : MethodName := ⟨RX9, "measuresOfTheOldest", "(I)I"⟩
abbrev cX9_grow : ByteArray := prog_11_method_7_code
def yX9_grow : MethodName := ⟨RX9, "grow", "(II)I"⟩
def RX10 : String := "StoreRealm"
def TX10 : u_T := fun k => match k with
  | 0 => ("StoreRealm", "land", "LStoreRealm$Land;", true)
  | 1 => ("StoreRealm", "tally", "LStoreRealm$Tally;", true)
  | 2 => ("StoreRealm", "carriers", "LStoreRealm$Carriers;", true)
  | 3 => ("StoreRealm", "tape", "[B", true)
  | 4 => ("StoreRealm", "tapeLength", "I", false)
  | 5 => ("StoreRealm", "book", "LStoreRealm$OrderBook;", true)
  | 6 => ("StoreRealm", "feasts", "LStoreRealm$Feasts;", true)
  | 7 => ("StoreRealm", "planner", "LStoreRealm$Planner;", true)
  | _ => ("StoreRealm", "ledger", "LStoreRealm$Ledger;", true)
def tyX10 : Nat → FieldType := fun k => match k with
  | 0 => .object "StoreRealm$Land"
  | 1 => .object "StoreRealm$Tally"
  | 2 => .object "StoreRealm$Carriers"
  | 3 => .array .byte
  | 4 => .int
  | 5 => .object "StoreRealm$OrderBook"
  | 6 => .object "StoreRealm$Feasts"
  | 7 => .object "StoreRealm$Planner"
  | _ => .object "StoreRealm$Ledger"
theorem nmX10 : ∀ a, a < 9 → ∀ b, b < 9 → a ≠ b → (TX10 a).2.1 ≠ (TX10 b).2.1 := by decide +kernel
theorem tyX10_ok : ∀ k, k < 9 → parseFieldDescriptor (TX10 k).2.2.1 = some (tyX10 k) := by decide +kernel
abbrev cX10_init : ByteArray := prog_1_method_1_code
def yX10_init : MethodName := ⟨RX10, "<init>", "()V"⟩
abbrev cX10_town : ByteArray := prog_1_method_2_code
def yX10_town : MethodName := ⟨RX10, "town", "(III)I"⟩
abbrev cX10_way : ByteArray := prog_1_method_3_code
def yX10_way : MethodName := ⟨RX10, "way", "(III)Z"⟩
abbrev cX10_keeps : ByteArray := prog_1_method_4_code
def yX10_keeps : MethodName := ⟨RX10, "keeps", "(II)Z"⟩
abbrev cX10_put : ByteArray := prog_1_method_5_code
def yX10_put : MethodName := ⟨RX10, "put", "(IIII)I"⟩
abbrev cX10_take : ByteArray := prog_1_method_6_code
def yX10_take : MethodName := ⟨RX10, "take", "(III)I"⟩
abbrev cX10_stock : ByteArray := prog_1_method_7_code
def yX10_stock : MethodName := ⟨RX10, "stock", "(III)I"⟩
abbrev cX10_feed : ByteArray := prog_1_method_8_code
def yX10_feed : MethodName := ⟨RX10, "feed", "(IIIII)I"⟩
abbrev cX10_end : ByteArray := prog_1_method_9_code
def yX10_end : MethodName := ⟨RX10, "end", "(I)I"⟩
abbrev cX10_orders : ByteArray := prog_1_method_10_code
def yX10_orders : MethodName := ⟨RX10, "orders", "()I"⟩
abbrev cX10_fault : ByteArray := prog_1_method_11_code
def yX10_fault : MethodName := ⟨RX10, "fault", "(I)I"⟩
abbrev cX10_months : ByteArray := prog_1_method_12_code
def yX10_months : MethodName := ⟨RX10, "months", "(I)I"⟩
abbrev cX10_sum : ByteArray := prog_1_method_13_code
def yX10_sum : MethodName := ⟨RX10, "sum", "(I)I"⟩
abbrev cX10_feast : ByteArray := prog_1_method_14_code
def yX10_feast : MethodName := ⟨RX10, "feast", "(IIII)I"⟩
abbrev cX10_cancel : ByteArray := prog_1_method_15_code
def yX10_cancel : MethodName := ⟨RX10, "cancel", "()Z"⟩
abbrev cX10_fed : ByteArray := prog_1_method_16_code
def yX10_fed : MethodName := ⟨RX10, "fed", "()I"⟩
abbrev cX10_carried : ByteArray := prog_1_method_17_code
def yX10_carried : MethodName := ⟨RX10, "carried", "()I"⟩
abbrev cX10_call : ByteArray := prog_1_method_18_code
def yX10_call : MethodName := ⟨RX10, "call", "(I)I"⟩
abbrev cX10_gave : ByteArray := prog_1_method_19_code
def yX10_gave : MethodName := ⟨RX10, "gave", "(I)I"⟩
abbrev cX10_tell : ByteArray := prog_1_method_20_code
def yX10_tell : MethodName := ⟨RX10, "tell", "(IIIII)I"⟩
abbrev cX10_untell : ByteArray := prog_1_method_21_code
def yX10_untell : MethodName := ⟨RX10, "untell", "(I)Z"⟩
abbrev cX10_count : ByteArray := prog_1_method_22_code
def yX10_count : MethodName := ⟨RX10, "count", "(IIII)I"⟩
abbrev cX10_agree : ByteArray := prog_1_method_23_code
def yX10_agree : MethodName := ⟨RX10, "agree", "(IIII)I"⟩
abbrev cX10_of : ByteArray := prog_1_method_24_code
def yX10_of : MethodName := ⟨RX10, "of", "(II)I"⟩
abbrev cX10_about : ByteArray := prog_1_method_25_code
def yX10_about : MethodName := ⟨RX10, "about", "(I)I"⟩
abbrev cX10_write : ByteArray := prog_1_method_26_code
def yX10_write : MethodName := ⟨RX10, "write", "(I)V"⟩
abbrev cX10_passMonth : ByteArray := prog_1_method_27_code
def yX10_passMonth : MethodName := ⟨RX10, "passMonth", "()V"⟩
abbrev cX10_obey : ByteArray := prog_1_method_28_code
def yX10_obey : MethodName := ⟨RX10, "obey", "(LStoreRealm$Orders;I)V"⟩
abbrev cX10_within : ByteArray := prog_1_method_29_code
def yX10_within : MethodName := ⟨RX10, "within", "(III)Z"⟩
abbrev cX10_isKind : ByteArray := prog_1_method_30_code
def yX10_isKind : MethodName := ⟨RX10, "isKind", "(I)Z"⟩
abbrev cX10_subject : ByteArray := prog_1_method_31_code
def yX10_subject : MethodName := ⟨RX10, "subject", "(II)I"⟩
abbrev cX10_monthsOnTheWay : ByteArray := prog_1_method_32_code
def yX10_monthsOnTheWay : MethodName := ⟨RX10, "monthsOnTheWay", "(I)I"⟩
def RX11 : String := "StoreRealmModel"
def TX11 : u_T := fun k => match k with
  | 0 => ("StoreRealmModel", "room", "[I", true)
  | 1 => ("StoreRealmModel", "people", "[I", true)
  | 2 => ("StoreRealmModel", "tens", "[I", true)
  | 3 => ("StoreRealmModel", "days", "[I", true)
  | 4 => ("StoreRealmModel", "keeps", "[I", true)
  | 5 => ("StoreRealmModel", "lots", "[I", true)
  | 6 => ("StoreRealmModel", "sums", "[I", true)
  | 7 => ("StoreRealmModel", "towns", "I", false)
  | 8 => ("StoreRealmModel", "month", "I", false)
  | 9 => ("StoreRealmModel", "tape", "[B", true)
  | 10 => ("StoreRealmModel", "text", "[B", true)
  | 11 => ("StoreRealmModel", "taped", "I", false)
  | 12 => ("StoreRealmModel", "size", "I", false)
  | 13 => ("StoreRealmModel", "faultKind", "I", false)
  | 14 => ("StoreRealmModel", "faultPlace", "I", false)
  | 15 => ("StoreRealmModel", "at", "I", false)
  | 16 => ("StoreRealmModel", "end", "I", false)
  | 17 => ("StoreRealmModel", "token", "I", false)
  | 18 => ("StoreRealmModel", "number", "I", false)
  | 19 => ("StoreRealmModel", "name", "J", false)
  | 20 => ("StoreRealmModel", "lineMany", "[I", true)
  | 21 => ("StoreRealmModel", "lFrom", "[I", true)
  | 22 => ("StoreRealmModel", "lTo", "[I", true)
  | 23 => ("StoreRealmModel", "lMeasures", "[I", true)
  | 24 => ("StoreRealmModel", "lKind", "[I", true)
  | 25 => ("StoreRealmModel", "lOut", "[I", true)
  | 26 => ("StoreRealmModel", "lIn", "[I", true)
  | 27 => ("StoreRealmModel", "code", "[I", true)
  | 28 => ("StoreRealmModel", "codeNumber", "[I", true)
  | 29 => ("StoreRealmModel", "codeKind", "[I", true)
  | 30 => ("StoreRealmModel", "bank", "I", false)
  | 31 => ("StoreRealmModel", "rb", "I", false)
  | 32 => ("StoreRealmModel", "codes", "I", false)
  | 33 => ("StoreRealmModel", "terms", "I", false)
  | 34 => ("StoreRealmModel", "eWhat", "[I", true)
  | 35 => ("StoreRealmModel", "piled", "I", false)
  | 36 => ("StoreRealmModel", "deep", "I", false)
  | 37 => ("StoreRealmModel", "values", "[I", true)
  | 38 => ("StoreRealmModel", "wTown", "[I", true)
  | 39 => ("StoreRealmModel", "wKind", "[I", true)
  | 40 => ("StoreRealmModel", "wAge", "[I", true)
  | 41 => ("StoreRealmModel", "wMeasures", "[I", true)
  | 42 => ("StoreRealmModel", "wComes", "[I", true)
  | 43 => ("StoreRealmModel", "loads", "I", false)
  | 44 => ("StoreRealmModel", "fTown", "[I", true)
  | 45 => ("StoreRealmModel", "fMonth", "[I", true)
  | 46 => ("StoreRealmModel", "fKind", "[I", true)
  | 47 => ("StoreRealmModel", "fMeasures", "[I", true)
  | 48 => ("StoreRealmModel", "left", "[I", true)
  | 49 => ("StoreRealmModel", "gave", "[I", true)
  | 50 => ("StoreRealmModel", "open", "[I", true)
  | 51 => ("StoreRealmModel", "farLot", "[I", true)
  | 52 => ("StoreRealmModel", "farFeast", "[I", true)
  | 53 => ("StoreRealmModel", "byFeast", "[I", true)
  | 54 => ("StoreRealmModel", "byLot", "[I", true)
  | 55 => ("StoreRealmModel", "feasts", "I", false)
  | 56 => ("StoreRealmModel", "fedAll", "I", false)
  | 57 => ("StoreRealmModel", "carriedAll", "I", false)
  | 58 => ("StoreRealmModel", "handsOf", "[I", true)
  | 59 => ("StoreRealmModel", "handsAll", "I", false)
  | 60 => ("StoreRealmModel", "cKeeper", "[I", true)
  | 61 => ("StoreRealmModel", "cTown", "[I", true)
  | 62 => ("StoreRealmModel", "cKind", "[I", true)
  | 63 => ("StoreRealmModel", "cMonth", "[I", true)
  | 64 => ("StoreRealmModel", "cCount", "[I", true)
  | 65 => ("StoreRealmModel", "cTold", "[I", true)
  | 66 => ("StoreRealmModel", "cUntold", "[I", true)
  | 67 => ("StoreRealmModel", "speaks", "[I", true)
  | 68 => ("StoreRealmModel", "counts", "I", false)
  | _ => ("StoreRealmModel", "agreed", "I", false)
def tyX11 : Nat → FieldType := fun k => match k with
  | 0 => .array .int
  | 1 => .array .int
  | 2 => .array .int
  | 3 => .array .int
  | 4 => .array .int
  | 5 => .array .int
  | 6 => .array .int
  | 7 => .int
  | 8 => .int
  | 9 => .array .byte
  | 10 => .array .byte
  | 11 => .int
  | 12 => .int
  | 13 => .int
  | 14 => .int
  | 15 => .int
  | 16 => .int
  | 17 => .int
  | 18 => .int
  | 19 => .long
  | 20 => .array .int
  | 21 => .array .int
  | 22 => .array .int
  | 23 => .array .int
  | 24 => .array .int
  | 25 => .array .int
  | 26 => .array .int
  | 27 => .array .int
  | 28 => .array .int
  | 29 => .array .int
  | 30 => .int
  | 31 => .int
  | 32 => .int
  | 33 => .int
  | 34 => .array .int
  | 35 => .int
  | 36 => .int
  | 37 => .array .int
  | 38 => .array .int
  | 39 => .array .int
  | 40 => .array .int
  | 41 => .array .int
  | 42 => .array .int
  | 43 => .int
  | 44 => .array .int
  | 45 => .array .int
  | 46 => .array .int
  | 47 => .array .int
  | 48 => .array .int
  | 49 => .array .int
  | 50 => .array .int
  | 51 => .array .int
  | 52 => .array .int
  | 53 => .array .int
  | 54 => .array .int
  | 55 => .int
  | 56 => .int
  | 57 => .int
  | 58 => .array .int
  | 59 => .int
  | 60 => .array .int
  | 61 => .array .int
  | 62 => .array .int
  | 63 => .array .int
  | 64 => .array .int
  | 65 => .array .int
  | 66 => .array .int
  | 67 => .array .int
  | 68 => .int
  | _ => .int
theorem nmX11 : ∀ a, a < 70 → ∀ b, b < 70 → a ≠ b → (TX11 a).2.1 ≠ (TX11 b).2.1 := by decide +kernel
theorem tyX11_ok : ∀ k, k < 70 → parseFieldDescriptor (TX11 k).2.2.1 = some (tyX11 k) := by decide +kernel
abbrev cX11_init : ByteArray := prog_13_method_1_code
def yX11_init : MethodName := ⟨RX11, "<init>", "()V"⟩
abbrev cX11_isTown : ByteArray := prog_13_method_2_code
def yX11_isTown : MethodName := ⟨RX11, "isTown", "(I)Z"⟩
abbrev cX11_isKind : ByteArray := prog_13_method_3_code
def yX11_isKind : MethodName := ⟨RX11, "isKind", "(I)Z"⟩
abbrev cX11_lot : ByteArray := prog_13_method_4_code
def yX11_lot : MethodName := ⟨RX11, "lot", "(III)I"⟩
abbrev cX11_town : ByteArray := prog_13_method_5_code
def yX11_town : MethodName := ⟨RX11, "town", "(III)I"⟩
abbrev cX11_way : ByteArray := prog_13_method_6_code
def yX11_way : MethodName := ⟨RX11, "way", "(III)Z"⟩
abbrev cX11_keeps : ByteArray := prog_13_method_7_code
def yX11_keeps : MethodName := ⟨RX11, "keeps", "(II)Z"⟩
abbrev cX11_inStore : ByteArray := prog_13_method_8_code
def yX11_inStore : MethodName := ⟨RX11, "inStore", "(I)I"⟩
abbrev cX11_space : ByteArray := prog_13_method_9_code
def yX11_space : MethodName := ⟨RX11, "space", "(I)I"⟩
abbrev cX11_comeIn : ByteArray := prog_13_method_10_code
def yX11_comeIn : MethodName := ⟨RX11, "comeIn", "(IIII)I"⟩
abbrev cX11_areMeasures : ByteArray := prog_13_method_11_code
def yX11_areMeasures : MethodName := ⟨RX11, "areMeasures", "(I)Z"⟩
abbrev cX11_put : ByteArray := prog_13_method_12_code
def yX11_put : MethodName := ⟨RX11, "put", "(IIII)I"⟩
abbrev cX11_goOut : ByteArray := prog_13_method_13_code
def yX11_goOut : MethodName := ⟨RX11, "goOut", "(III)I"⟩
abbrev cX11_take : ByteArray := prog_13_method_14_code
def yX11_take : MethodName := ⟨RX11, "take", "(III)I"⟩
abbrev cX11_stockOf : ByteArray := prog_13_method_15_code
def yX11_stockOf : MethodName := ⟨RX11, "stockOf", "(II)I"⟩
abbrev cX11_stock : ByteArray := prog_13_method_16_code
def yX11_stock : MethodName := ⟨RX11, "stock", "(III)I"⟩
abbrev cX11_oldOf : ByteArray := prog_13_method_17_code
def yX11_oldOf : MethodName := ⟨RX11, "oldOf", "(II)I"⟩
abbrev cX11_sign : ByteArray := prog_13_method_18_code
def yX11_sign : MethodName := ⟨RX11, "sign", "(I)I"⟩
abbrev cX11_isLetter : ByteArray := prog_13_method_19_code
def yX11_isLetter : MethodName := ⟨RX11, "isLetter", "(I)Z"⟩
abbrev cX11_isDigit : ByteArray := prog_13_method_20_code
def yX11_isDigit : MethodName := ⟨RX11, "isDigit", "(I)Z"⟩
abbrev cX11_fails : ByteArray := prog_13_method_21_code
def yX11_fails : MethodName := ⟨RX11, "fails", "(II)V"⟩
abbrev cX11_isGood : ByteArray := prog_13_method_22_code
def yX11_isGood : MethodName := ⟨RX11, "isGood", "()Z"⟩
abbrev cX11_next : ByteArray := prog_13_method_23_code
def yX11_next : MethodName := ⟨RX11, "next", "()V"⟩
abbrev cX11_is : ByteArray := prog_13_method_24_code
def yX11_is : MethodName := ⟨RX11, "is", "(I)Z"⟩
abbrev cX11_isWord : ByteArray := prog_13_method_25_code
def yX11_isWord : MethodName := ⟨RX11, "isWord", "(J)Z"⟩
abbrev cX11_wrong : ByteArray := prog_13_method_26_code
def yX11_wrong : MethodName := ⟨RX11, "wrong", "()V"⟩
abbrev cX11_must : ByteArray := prog_13_method_27_code
def yX11_must : MethodName := ⟨RX11, "must", "(Z)V"⟩
abbrev cX11_kindHere : ByteArray := prog_13_method_28_code
def yX11_kindHere : MethodName := ⟨RX11, "kindHere", "()I"⟩
abbrev cX11_aKind : ByteArray := prog_13_method_29_code
def yX11_aKind : MethodName := ⟨RX11, "aKind", "()I"⟩
abbrev cX11_aNumber : ByteArray := prog_13_method_30_code
def yX11_aNumber : MethodName := ⟨RX11, "aNumber", "(I)I"⟩
abbrev cX11_orders : ByteArray := prog_13_method_31_code
def yX11_orders : MethodName := ⟨RX11, "orders", "()I"⟩
abbrev cX11_readLine : ByteArray := prog_13_method_32_code
def yX11_readLine : MethodName := ⟨RX11, "readLine", "()V"⟩
abbrev cX11_step : ByteArray := prog_13_method_33_code
def yX11_step : MethodName := ⟨RX11, "step", "(III)V"⟩
abbrev cX11_pile : ByteArray := prog_13_method_34_code
def yX11_pile : MethodName := ⟨RX11, "pile", "(I)V"⟩
abbrev cX11_e : ByteArray := prog_13_method_35_code
def yX11_e : MethodName := ⟨RX11, "e", "()V"⟩
abbrev cX11_one : ByteArray := prog_13_method_36_code
def yX11_one : MethodName := ⟨RX11, "one", "()Z"⟩
abbrev cX11_readSum : ByteArray := prog_13_method_37_code
def yX11_readSum : MethodName := ⟨RX11, "readSum", "()V"⟩
abbrev cX11_term : ByteArray := prog_13_method_38_code
def yX11_term : MethodName := ⟨RX11, "term", "()V"⟩
abbrev cX11_behind : ByteArray := prog_13_method_39_code
def yX11_behind : MethodName := ⟨RX11, "behind", "()Z"⟩
abbrev cX11_fault : ByteArray := prog_13_method_40_code
def yX11_fault : MethodName := ⟨RX11, "fault", "(I)I"⟩
abbrev cX11_leaf : ByteArray := prog_13_method_41_code
def yX11_leaf : MethodName := ⟨RX11, "leaf", "(III)I"⟩
abbrev cX11_two : ByteArray := prog_13_method_42_code
def yX11_two : MethodName := ⟨RX11, "two", "(III)I"⟩
abbrev cX11_holds : ByteArray := prog_13_method_43_code
def yX11_holds : MethodName := ⟨RX11, "holds", "(I)Z"⟩
abbrev cX11_monthsFor : ByteArray := prog_13_method_44_code
def yX11_monthsFor : MethodName := ⟨RX11, "monthsFor", "(I)I"⟩
abbrev cX11_arrive : ByteArray := prog_13_method_45_code
def yX11_arrive : MethodName := ⟨RX11, "arrive", "()V"⟩
abbrev cX11_age : ByteArray := prog_13_method_46_code
def yX11_age : MethodName := ⟨RX11, "age", "()V"⟩
abbrev cX11_eat : ByteArray := prog_13_method_47_code
def yX11_eat : MethodName := ⟨RX11, "eat", "()V"⟩
abbrev cX11_send : ByteArray := prog_13_method_48_code
def yX11_send : MethodName := ⟨RX11, "send", "(I)V"⟩
abbrev cX11_months : ByteArray := prog_13_method_49_code
def yX11_months : MethodName := ⟨RX11, "months", "(I)I"⟩
abbrev cX11_sum : ByteArray := prog_13_method_50_code
def yX11_sum : MethodName := ⟨RX11, "sum", "(I)I"⟩
abbrev cX11_feast : ByteArray := prog_13_method_51_code
def yX11_feast : MethodName := ⟨RX11, "feast", "(IIII)I"⟩
abbrev cX11_cancel : ByteArray := prog_13_method_52_code
def yX11_cancel : MethodName := ⟨RX11, "cancel", "()Z"⟩
abbrev cX11_canGo : ByteArray := prog_13_method_53_code
def yX11_canGo : MethodName := ⟨RX11, "canGo", "(II)Z"⟩
abbrev cX11_daysOf : ByteArray := prog_13_method_54_code
def yX11_daysOf : MethodName := ⟨RX11, "daysOf", "(II)I"⟩
abbrev cX11_feedAll : ByteArray := prog_13_method_55_code
def yX11_feedAll : MethodName := ⟨RX11, "feedAll", "()V"⟩
abbrev cX11_measure : ByteArray := prog_13_method_56_code
def yX11_measure : MethodName := ⟨RX11, "measure", "(I)V"⟩
abbrev cX11_nearer : ByteArray := prog_13_method_57_code
def yX11_nearer : MethodName := ⟨RX11, "nearer", "(I)Z"⟩
abbrev cX11_giveMore : ByteArray := prog_13_method_58_code
def yX11_giveMore : MethodName := ⟨RX11, "giveMore", "(I)Z"⟩
abbrev cX11_fed : ByteArray := prog_13_method_59_code
def yX11_fed : MethodName := ⟨RX11, "fed", "()I"⟩
abbrev cX11_carried : ByteArray := prog_13_method_60_code
def yX11_carried : MethodName := ⟨RX11, "carried", "()I"⟩
abbrev cX11_call : ByteArray := prog_13_method_61_code
def yX11_call : MethodName := ⟨RX11, "call", "(I)I"⟩
abbrev cX11_lacks : ByteArray := prog_13_method_62_code
def yX11_lacks : MethodName := ⟨RX11, "lacks", "(II)I"⟩
abbrev cX11_gave : ByteArray := prog_13_method_63_code
def yX11_gave : MethodName := ⟨RX11, "gave", "(I)I"⟩
abbrev cX11_tell : ByteArray := prog_13_method_64_code
def yX11_tell : MethodName := ⟨RX11, "tell", "(IIIII)I"⟩
abbrev cX11_untell : ByteArray := prog_13_method_65_code
def yX11_untell : MethodName := ⟨RX11, "untell", "(I)Z"⟩
abbrev cX11_count : ByteArray := prog_13_method_66_code
def yX11_count : MethodName := ⟨RX11, "count", "(IIII)I"⟩
abbrev cX11_agree : ByteArray := prog_13_method_67_code
def yX11_agree : MethodName := ⟨RX11, "agree", "(IIII)I"⟩
abbrev cX11_of : ByteArray := prog_13_method_68_code
def yX11_of : MethodName := ⟨RX11, "of", "(II)I"⟩
abbrev cX11_about : ByteArray := prog_13_method_69_code
def yX11_about : MethodName := ⟨RX11, "about", "(I)I"⟩
abbrev cX11_feed : ByteArray := prog_13_method_70_code
def yX11_feed : MethodName := ⟨RX11, "feed", "(IIIII)I"⟩
abbrev cX11_end : ByteArray := prog_13_method_71_code
def yX11_end : MethodName := ⟨RX11, "end", "(I)I"⟩
def RJ9 : String := "java/lang/Math"
abbrev cJ9_min_7cf53 : ByteArray := prog_14_method_69_code
def yJ9_min_7cf53 : MethodName := ⟨RJ9, "min", "(II)I"⟩
def RJ0 : String := "java/lang/String"
abbrev cJ0_length_8abf5 : ByteArray := prog_15_method_54_code
def yJ0_length_8abf5 : MethodName := ⟨RJ0, "length", "()I"⟩
abbrev cJ0_charAt_5068e : ByteArray := prog_15_method_56_code
def yJ0_charAt_5068e : MethodName := ⟨RJ0, "charAt", "(I)C"⟩
abbrev cJ0_coder_7d493 : ByteArray := prog_15_method_152_code
def yJ0_coder_7d493 : MethodName := ⟨RJ0, "coder", "()B"⟩
abbrev cJ0_isLatin1_aae02 : ByteArray := prog_15_method_154_code
def yJ0_isLatin1_aae02 : MethodName := ⟨RJ0, "isLatin1", "()Z"⟩
abbrev cJ0_checkIndex_df160 : ByteArray := prog_15_method_155_code
def yJ0_checkIndex_df160 : MethodName := ⟨RJ0, "checkIndex", "(II)V"⟩
def RJ1 : String := "java/lang/StringLatin1"
abbrev cJ1_charAt_3b067 : ByteArray := prog_16_method_2_code
def yJ1_charAt_3b067 : MethodName := ⟨RJ1, "charAt", "([BI)C"⟩
def RJ2 : String := "java/lang/StringUTF16"
abbrev cJ2_getChar_3b067 : ByteArray := prog_17_method_5_code
def yJ2_getChar_3b067 : MethodName := ⟨RJ2, "getChar", "([BI)C"⟩
abbrev cJ2_length_9d52b : ByteArray := prog_17_method_6_code
def yJ2_length_9d52b : MethodName := ⟨RJ2, "length", "([B)I"⟩
abbrev cJ2_charAt_3b067 : ByteArray := prog_17_method_83_code
def yJ2_charAt_3b067 : MethodName := ⟨RJ2, "charAt", "([BI)C"⟩
abbrev cJ2_checkIndex_2214a : ByteArray := prog_17_method_91_code
def yJ2_checkIndex_2214a : MethodName := ⟨RJ2, "checkIndex", "(I[B)V"⟩
def RJ7 : String := "java/util/Arrays"
abbrev cJ7_fill_53178 : ByteArray := prog_18_method_103_code
def yJ7_fill_53178 : MethodName := ⟨RJ7, "fill", "([II)V"⟩
def RJ3 : String := "jdk/internal/util/Preconditions"
abbrev cJ3_checkIndex_8e157 : ByteArray := prog_19_method_11_code
def yJ3_checkIndex_8e157 : MethodName := ⟨RJ3, "checkIndex", "(IILjava/util/function/BiFunction;)I"⟩
def RL : String := "StoreRealmLaw"
abbrev cL_law : ByteArray := code
def yL_law : MethodName := ⟨RL, "law", "([I)Z"⟩
abbrev vwCl : List vw_C := [(RX0, TX0, 6), (RX1, TX1, 5), (RX2, TX2, 6), (RX3, TX3, 10), (RX4, TX4, 8), (RX5, TX5, 9), (RX6, TX6, 17), (RX7, TX7, 4), (RX8, TX8, 4), (RX9, TX9, 6), (RX10, TX10, 9), (RX11, TX11, 70)]
end
section
abbrev kM : Nat := 0
abbrev kS : Nat := 1
abbrev kLand : Nat := 2
abbrev kTown : Nat := 3
abbrev kTally : Nat := 4
abbrev kCarriers : Nat := 5
abbrev kOrderBook : Nat := 6
abbrev kOrders : Nat := 7
abbrev kTokens : Nat := 8
abbrev kFeasts : Nat := 9
abbrev kPlanner : Nat := 10
abbrev kLedger : Nat := 11
abbrev kM_room : Nat := 12
abbrev kM_people : Nat := 13
abbrev kM_tens : Nat := 14
abbrev kM_days : Nat := 15
abbrev kM_keeps : Nat := 16
abbrev kM_lots : Nat := 17
abbrev kM_sums : Nat := 18
abbrev kM_tape : Nat := 19
abbrev kM_text : Nat := 20
abbrev kM_lineMany : Nat := 21
abbrev kM_lFrom : Nat := 22
abbrev kM_lTo : Nat := 23
abbrev kM_lMeasures : Nat := 24
abbrev kM_lKind : Nat := 25
abbrev kM_lOut : Nat := 26
abbrev kM_lIn : Nat := 27
abbrev kM_code : Nat := 28
abbrev kM_codeNumber : Nat := 29
abbrev kM_codeKind : Nat := 30
abbrev kM_eWhat : Nat := 31
abbrev kM_values : Nat := 32
abbrev kM_wTown : Nat := 33
abbrev kM_wKind : Nat := 34
abbrev kM_wAge : Nat := 35
abbrev kM_wMeasures : Nat := 36
abbrev kM_wComes : Nat := 37
abbrev kM_fTown : Nat := 38
abbrev kM_fMonth : Nat := 39
abbrev kM_fKind : Nat := 40
abbrev kM_fMeasures : Nat := 41
abbrev kM_left : Nat := 42
abbrev kM_gave : Nat := 43
abbrev kM_open : Nat := 44
abbrev kM_farLot : Nat := 45
abbrev kM_farFeast : Nat := 46
abbrev kM_byFeast : Nat := 47
abbrev kM_byLot : Nat := 48
abbrev kM_handsOf : Nat := 49
abbrev kM_cKeeper : Nat := 50
abbrev kM_cTown : Nat := 51
abbrev kM_cKind : Nat := 52
abbrev kM_cMonth : Nat := 53
abbrev kM_cCount : Nat := 54
abbrev kM_cTold : Nat := 55
abbrev kM_cUntold : Nat := 56
abbrev kM_speaks : Nat := 57
abbrev kS_tape : Nat := 58
abbrev kLand_towns : Nat := 59
abbrev kLand_days : Nat := 60
abbrev kDaysRow : Nat := 61
abbrev kLand_keeping : Nat := 62
abbrev kTown_held : Nat := 63
abbrev kTown_lots : Nat := 64
abbrev kLots : Nat := 65
abbrev kCarriers_to : Nat := 66
abbrev kCarriers_kind : Nat := 67
abbrev kCarriers_age : Nat := 68
abbrev kCarriers_measures : Nat := 69
abbrev kCarriers_arrival : Nat := 70
abbrev kOrders_steps : Nat := 71
abbrev kOrders_open : Nat := 72
abbrev kOrders_stepsStop : Nat := 73
abbrev kOrders_measures : Nat := 74
abbrev kOrders_kind : Nat := 75
abbrev kOrders_from : Nat := 76
abbrev kOrders_to : Nat := 77
abbrev kTokens_what : Nat := 78
abbrev kTokens_value : Nat := 79
abbrev kTokens_place : Nat := 80
abbrev kFeasts_town : Nat := 81
abbrev kFeasts_month : Nat := 82
abbrev kFeasts_kind : Nat := 83
abbrev kFeasts_measures : Nat := 84
abbrev kPlanner_feastTown : Nat := 85
abbrev kPlanner_feastMonth : Nat := 86
abbrev kPlanner_oldestServing : Nat := 87
abbrev kPlanner_wanting : Nat := 88
abbrev kPlanner_feastCost : Nat := 89
abbrev kPlanner_feastFrom : Nat := 90
abbrev kPlanner_pileTown : Nat := 91
abbrev kPlanner_pileAge : Nat := 92
abbrev kPlanner_left : Nat := 93
abbrev kPlanner_pileCost : Nat := 94
abbrev kPlanner_pileFrom : Nat := 95
abbrev kPlanner_days : Nat := 96
abbrev kPlanner_given : Nat := 97
abbrev kLedger_keeper : Nat := 98
abbrev kLedger_subject : Nat := 99
abbrev kLedger_month : Nat := 100
abbrev kLedger_amount : Nat := 101
abbrev kLedger_toldIn : Nat := 102
abbrev kLedger_untoldIn : Nat := 103
abbrev kLedger_voice : Nat := 104
abbrev kStr : Nat := 105
abbrev kStrV : Nat := 106
abbrev sh_NK : Nat := 105
def sh_cnt (k : Nat) : Nat := (cond (Nat.blt k 53) (cond (Nat.blt k 26) (cond (Nat.blt k 13) (cond (Nat.blt k 6) (cond (Nat.blt k 3) (cond (Nat.blt k 1) 1 (cond (Nat.blt k 2) 1 1)) (cond (Nat.blt k 4) 8 (cond (Nat.blt k 5) 1 1))) (cond (Nat.blt k 9) (cond (Nat.blt k 7) 1 (cond (Nat.blt k 8) 2 1)) (cond (Nat.blt k 11) (cond (Nat.blt k 10) 1 1) (cond (Nat.blt k 12) 1 1)))) (cond (Nat.blt k 19) (cond (Nat.blt k 16) (cond (Nat.blt k 14) 1 (cond (Nat.blt k 15) 1 1)) (cond (Nat.blt k 17) 1 (cond (Nat.blt k 18) 1 1))) (cond (Nat.blt k 22) (cond (Nat.blt k 20) 1 (cond (Nat.blt k 21) 1 1)) (cond (Nat.blt k 24) (cond (Nat.blt k 23) 1 1) (cond (Nat.blt k 25) 1 1))))) (cond (Nat.blt k 39) (cond (Nat.blt k 32) (cond (Nat.blt k 29) (cond (Nat.blt k 27) 1 (cond (Nat.blt k 28) 1 1)) (cond (Nat.blt k 30) 1 (cond (Nat.blt k 31) 1 1))) (cond (Nat.blt k 35) (cond (Nat.blt k 33) 1 (cond (Nat.blt k 34) 1 1)) (cond (Nat.blt k 37) (cond (Nat.blt k 36) 1 1) (cond (Nat.blt k 38) 1 1)))) (cond (Nat.blt k 46) (cond (Nat.blt k 42) (cond (Nat.blt k 40) 1 (cond (Nat.blt k 41) 1 1)) (cond (Nat.blt k 44) (cond (Nat.blt k 43) 1 1) (cond (Nat.blt k 45) 1 1))) (cond (Nat.blt k 49) (cond (Nat.blt k 47) 1 (cond (Nat.blt k 48) 1 1)) (cond (Nat.blt k 51) (cond (Nat.blt k 50) 1 1) (cond (Nat.blt k 52) 1 1)))))) (cond (Nat.blt k 79) (cond (Nat.blt k 66) (cond (Nat.blt k 59) (cond (Nat.blt k 56) (cond (Nat.blt k 54) 1 (cond (Nat.blt k 55) 1 1)) (cond (Nat.blt k 57) 1 (cond (Nat.blt k 58) 1 1))) (cond (Nat.blt k 62) (cond (Nat.blt k 60) 1 (cond (Nat.blt k 61) 1 8)) (cond (Nat.blt k 64) (cond (Nat.blt k 63) 1 8) (cond (Nat.blt k 65) 8 24)))) (cond (Nat.blt k 72) (cond (Nat.blt k 69) (cond (Nat.blt k 67) 1 (cond (Nat.blt k 68) 1 1)) (cond (Nat.blt k 70) 1 (cond (Nat.blt k 71) 1 2))) (cond (Nat.blt k 75) (cond (Nat.blt k 73) 2 (cond (Nat.blt k 74) 2 2)) (cond (Nat.blt k 77) (cond (Nat.blt k 76) 2 2) (cond (Nat.blt k 78) 2 1))))) (cond (Nat.blt k 92) (cond (Nat.blt k 85) (cond (Nat.blt k 82) (cond (Nat.blt k 80) 1 (cond (Nat.blt k 81) 1 1)) (cond (Nat.blt k 83) 1 (cond (Nat.blt k 84) 1 1))) (cond (Nat.blt k 88) (cond (Nat.blt k 86) 1 (cond (Nat.blt k 87) 1 1)) (cond (Nat.blt k 90) (cond (Nat.blt k 89) 1 1) (cond (Nat.blt k 91) 1 1)))) (cond (Nat.blt k 99) (cond (Nat.blt k 95) (cond (Nat.blt k 93) 1 (cond (Nat.blt k 94) 1 1)) (cond (Nat.blt k 97) (cond (Nat.blt k 96) 1 1) (cond (Nat.blt k 98) 1 1))) (cond (Nat.blt k 102) (cond (Nat.blt k 100) 1 (cond (Nat.blt k 101) 1 1)) (cond (Nat.blt k 104) (cond (Nat.blt k 103) 1 1) (cond (Nat.blt k 105) 1 0)))))))
def sh_obj (k : Nat) : Option Nat := (cond (Nat.blt k 53) (cond (Nat.blt k 26) (cond (Nat.blt k 13) (cond (Nat.blt k 6) (cond (Nat.blt k 3) (cond (Nat.blt k 1) (some 11) (cond (Nat.blt k 2) (some 10) (some 2))) (cond (Nat.blt k 4) (some 9) (cond (Nat.blt k 5) (some 7) (some 0)))) (cond (Nat.blt k 9) (cond (Nat.blt k 7) (some 4) (cond (Nat.blt k 8) (some 5) (some 8))) (cond (Nat.blt k 11) (cond (Nat.blt k 10) (some 1) (some 6)) (cond (Nat.blt k 12) (some 3) none)))) (cond (Nat.blt k 19) (cond (Nat.blt k 16) (cond (Nat.blt k 14) none (cond (Nat.blt k 15) none none)) (cond (Nat.blt k 17) none (cond (Nat.blt k 18) none none))) (cond (Nat.blt k 22) (cond (Nat.blt k 20) none (cond (Nat.blt k 21) none none)) (cond (Nat.blt k 24) (cond (Nat.blt k 23) none none) (cond (Nat.blt k 25) none none))))) (cond (Nat.blt k 39) (cond (Nat.blt k 32) (cond (Nat.blt k 29) (cond (Nat.blt k 27) none (cond (Nat.blt k 28) none none)) (cond (Nat.blt k 30) none (cond (Nat.blt k 31) none none))) (cond (Nat.blt k 35) (cond (Nat.blt k 33) none (cond (Nat.blt k 34) none none)) (cond (Nat.blt k 37) (cond (Nat.blt k 36) none none) (cond (Nat.blt k 38) none none)))) (cond (Nat.blt k 46) (cond (Nat.blt k 42) (cond (Nat.blt k 40) none (cond (Nat.blt k 41) none none)) (cond (Nat.blt k 44) (cond (Nat.blt k 43) none none) (cond (Nat.blt k 45) none none))) (cond (Nat.blt k 49) (cond (Nat.blt k 47) none (cond (Nat.blt k 48) none none)) (cond (Nat.blt k 51) (cond (Nat.blt k 50) none none) (cond (Nat.blt k 52) none none)))))) (cond (Nat.blt k 79) (cond (Nat.blt k 66) (cond (Nat.blt k 59) (cond (Nat.blt k 56) (cond (Nat.blt k 54) none (cond (Nat.blt k 55) none none)) (cond (Nat.blt k 57) none (cond (Nat.blt k 58) none none))) (cond (Nat.blt k 62) (cond (Nat.blt k 60) none (cond (Nat.blt k 61) none none)) (cond (Nat.blt k 64) (cond (Nat.blt k 63) none none) (cond (Nat.blt k 65) none none)))) (cond (Nat.blt k 72) (cond (Nat.blt k 69) (cond (Nat.blt k 67) none (cond (Nat.blt k 68) none none)) (cond (Nat.blt k 70) none (cond (Nat.blt k 71) none none))) (cond (Nat.blt k 75) (cond (Nat.blt k 73) none (cond (Nat.blt k 74) none none)) (cond (Nat.blt k 77) (cond (Nat.blt k 76) none none) (cond (Nat.blt k 78) none none))))) (cond (Nat.blt k 92) (cond (Nat.blt k 85) (cond (Nat.blt k 82) (cond (Nat.blt k 80) none (cond (Nat.blt k 81) none none)) (cond (Nat.blt k 83) none (cond (Nat.blt k 84) none none))) (cond (Nat.blt k 88) (cond (Nat.blt k 86) none (cond (Nat.blt k 87) none none)) (cond (Nat.blt k 90) (cond (Nat.blt k 89) none none) (cond (Nat.blt k 91) none none)))) (cond (Nat.blt k 99) (cond (Nat.blt k 95) (cond (Nat.blt k 93) none (cond (Nat.blt k 94) none none)) (cond (Nat.blt k 97) (cond (Nat.blt k 96) none none) (cond (Nat.blt k 98) none none))) (cond (Nat.blt k 102) (cond (Nat.blt k 100) none (cond (Nat.blt k 101) none none)) (cond (Nat.blt k 104) (cond (Nat.blt k 103) none none) (cond (Nat.blt k 105) none none)))))))
def sh_arr (k : Nat) : Option (Nat × Nat) := (cond (Nat.blt k 53) (cond (Nat.blt k 26) (cond (Nat.blt k 13) (cond (Nat.blt k 6) (cond (Nat.blt k 3) (cond (Nat.blt k 1) none (cond (Nat.blt k 2) none none)) (cond (Nat.blt k 4) none (cond (Nat.blt k 5) none none))) (cond (Nat.blt k 9) (cond (Nat.blt k 7) none (cond (Nat.blt k 8) none none)) (cond (Nat.blt k 11) (cond (Nat.blt k 10) none none) (cond (Nat.blt k 12) none (some (0, 8)))))) (cond (Nat.blt k 19) (cond (Nat.blt k 16) (cond (Nat.blt k 14) (some (0, 8)) (cond (Nat.blt k 15) (some (0, 8)) (some (0, 64)))) (cond (Nat.blt k 17) (some (0, 3)) (cond (Nat.blt k 18) (some (0, 1464)) (some (0, 6))))) (cond (Nat.blt k 22) (cond (Nat.blt k 20) (some (1, 1020)) (cond (Nat.blt k 21) (some (1, 1000)) (some (0, 2)))) (cond (Nat.blt k 24) (cond (Nat.blt k 23) (some (0, 24)) (some (0, 24))) (cond (Nat.blt k 25) (some (0, 24)) (some (0, 24))))))) (cond (Nat.blt k 39) (cond (Nat.blt k 32) (cond (Nat.blt k 29) (cond (Nat.blt k 27) (some (0, 24)) (cond (Nat.blt k 28) (some (0, 24)) (some (0, 2000)))) (cond (Nat.blt k 30) (some (0, 2000)) (cond (Nat.blt k 31) (some (0, 2000)) (some (0, 60))))) (cond (Nat.blt k 35) (cond (Nat.blt k 33) (some (0, 100)) (cond (Nat.blt k 34) (some (0, 60)) (some (0, 60)))) (cond (Nat.blt k 37) (cond (Nat.blt k 36) (some (0, 60)) (some (0, 60))) (cond (Nat.blt k 38) (some (0, 60)) (some (0, 10)))))) (cond (Nat.blt k 46) (cond (Nat.blt k 42) (cond (Nat.blt k 40) (some (0, 10)) (cond (Nat.blt k 41) (some (0, 10)) (some (0, 10)))) (cond (Nat.blt k 44) (cond (Nat.blt k 43) (some (0, 488)) (some (0, 4880))) (cond (Nat.blt k 45) (some (0, 10)) (some (0, 488))))) (cond (Nat.blt k 49) (cond (Nat.blt k 47) (some (0, 10)) (cond (Nat.blt k 48) (some (0, 488)) (some (0, 10)))) (cond (Nat.blt k 51) (cond (Nat.blt k 50) (some (0, 8)) (some (0, 60))) (cond (Nat.blt k 52) (some (0, 60)) (some (0, 60)))))))) (cond (Nat.blt k 79) (cond (Nat.blt k 66) (cond (Nat.blt k 59) (cond (Nat.blt k 56) (cond (Nat.blt k 54) (some (0, 60)) (cond (Nat.blt k 55) (some (0, 60)) (some (0, 60)))) (cond (Nat.blt k 57) (some (0, 60)) (cond (Nat.blt k 58) (some (0, 5)) (some (1, 1000))))) (cond (Nat.blt k 62) (cond (Nat.blt k 60) (some (3, 8)) (cond (Nat.blt k 61) (some (4, 8)) (some (0, 8)))) (cond (Nat.blt k 64) (cond (Nat.blt k 63) (some (0, 3)) (some (0, 3))) (cond (Nat.blt k 65) (some (4, 3)) (some (0, 61)))))) (cond (Nat.blt k 72) (cond (Nat.blt k 69) (cond (Nat.blt k 67) (some (0, 60)) (cond (Nat.blt k 68) (some (0, 60)) (some (0, 60)))) (cond (Nat.blt k 70) (some (0, 60)) (cond (Nat.blt k 71) (some (0, 60)) (some (0, 512))))) (cond (Nat.blt k 75) (cond (Nat.blt k 73) (some (0, 32)) (cond (Nat.blt k 74) (some (0, 12)) (some (0, 12)))) (cond (Nat.blt k 77) (cond (Nat.blt k 76) (some (0, 12)) (some (0, 12))) (cond (Nat.blt k 78) (some (0, 12)) (some (1, 1002))))))) (cond (Nat.blt k 92) (cond (Nat.blt k 85) (cond (Nat.blt k 82) (cond (Nat.blt k 80) (some (0, 1002)) (cond (Nat.blt k 81) (some (2, 1002)) (some (0, 10)))) (cond (Nat.blt k 83) (some (0, 10)) (cond (Nat.blt k 84) (some (0, 10)) (some (0, 10))))) (cond (Nat.blt k 88) (cond (Nat.blt k 86) (some (0, 10)) (cond (Nat.blt k 87) (some (0, 10)) (some (0, 10)))) (cond (Nat.blt k 90) (cond (Nat.blt k 89) (some (0, 10)) (some (0, 10))) (cond (Nat.blt k 91) (some (0, 10)) (some (0, 80)))))) (cond (Nat.blt k 99) (cond (Nat.blt k 95) (cond (Nat.blt k 93) (some (0, 80)) (cond (Nat.blt k 94) (some (0, 80)) (some (0, 80)))) (cond (Nat.blt k 97) (cond (Nat.blt k 96) (some (0, 80)) (some (0, 800))) (cond (Nat.blt k 98) (some (0, 800)) (some (0, 60))))) (cond (Nat.blt k 102) (cond (Nat.blt k 100) (some (0, 60)) (cond (Nat.blt k 101) (some (0, 60)) (some (0, 60)))) (cond (Nat.blt k 104) (cond (Nat.blt k 103) (some (0, 60)) (some (0, 60))) (cond (Nat.blt k 105) (some (0, 5)) none)))))))
def sh_rf (k i s : Nat) : Option (Nat × Nat) := (cond (Nat.blt k 53) (cond (Nat.blt k 26) (cond (Nat.blt k 13) (cond (Nat.blt k 6) (cond (Nat.blt k 3) (cond (Nat.blt k 1) (cond (Nat.blt s 35) (cond (Nat.blt s 17) (cond (Nat.blt s 8) (cond (Nat.blt s 4) (cond (Nat.blt s 2) (cond (Nat.blt s 1) (some (12, 0)) (some (13, 0))) (cond (Nat.blt s 3) (some (14, 0)) (some (15, 0)))) (cond (Nat.blt s 6) (cond (Nat.blt s 5) (some (16, 0)) (some (17, 0))) (cond (Nat.blt s 7) (some (18, 0)) none))) (cond (Nat.blt s 12) (cond (Nat.blt s 10) (cond (Nat.blt s 9) none (some (19, 0))) (cond (Nat.blt s 11) (some (20, 0)) none)) (cond (Nat.blt s 14) (cond (Nat.blt s 13) none none) (cond (Nat.blt s 15) none (cond (Nat.blt s 16) none none))))) (cond (Nat.blt s 26) (cond (Nat.blt s 21) (cond (Nat.blt s 19) (cond (Nat.blt s 18) none none) (cond (Nat.blt s 20) none (some (21, 0)))) (cond (Nat.blt s 23) (cond (Nat.blt s 22) (some (22, 0)) (some (23, 0))) (cond (Nat.blt s 24) (some (24, 0)) (cond (Nat.blt s 25) (some (25, 0)) (some (26, 0)))))) (cond (Nat.blt s 30) (cond (Nat.blt s 28) (cond (Nat.blt s 27) (some (27, 0)) (some (28, 0))) (cond (Nat.blt s 29) (some (29, 0)) (some (30, 0)))) (cond (Nat.blt s 32) (cond (Nat.blt s 31) none none) (cond (Nat.blt s 33) none (cond (Nat.blt s 34) none (some (31, 0)))))))) (cond (Nat.blt s 53) (cond (Nat.blt s 44) (cond (Nat.blt s 39) (cond (Nat.blt s 37) (cond (Nat.blt s 36) none none) (cond (Nat.blt s 38) (some (32, 0)) (some (33, 0)))) (cond (Nat.blt s 41) (cond (Nat.blt s 40) (some (34, 0)) (some (35, 0))) (cond (Nat.blt s 42) (some (36, 0)) (cond (Nat.blt s 43) (some (37, 0)) none)))) (cond (Nat.blt s 48) (cond (Nat.blt s 46) (cond (Nat.blt s 45) (some (38, 0)) (some (39, 0))) (cond (Nat.blt s 47) (some (40, 0)) (some (41, 0)))) (cond (Nat.blt s 50) (cond (Nat.blt s 49) (some (42, 0)) (some (43, 0))) (cond (Nat.blt s 51) (some (44, 0)) (cond (Nat.blt s 52) (some (45, 0)) (some (46, 0))))))) (cond (Nat.blt s 62) (cond (Nat.blt s 57) (cond (Nat.blt s 55) (cond (Nat.blt s 54) (some (47, 0)) (some (48, 0))) (cond (Nat.blt s 56) none none)) (cond (Nat.blt s 59) (cond (Nat.blt s 58) none (some (49, 0))) (cond (Nat.blt s 60) none (cond (Nat.blt s 61) (some (50, 0)) (some (51, 0)))))) (cond (Nat.blt s 66) (cond (Nat.blt s 64) (cond (Nat.blt s 63) (some (52, 0)) (some (53, 0))) (cond (Nat.blt s 65) (some (54, 0)) (some (55, 0)))) (cond (Nat.blt s 68) (cond (Nat.blt s 67) (some (56, 0)) (some (57, 0))) (cond (Nat.blt s 69) none (cond (Nat.blt s 70) none none))))))) (cond (Nat.blt k 2) (cond (Nat.blt s 5) (cond (Nat.blt s 2) (cond (Nat.blt s 1) (some (2, 0)) (some (4, 0))) (cond (Nat.blt s 3) (some (5, 0)) (cond (Nat.blt s 4) (some (58, 0)) none))) (cond (Nat.blt s 7) (cond (Nat.blt s 6) (some (6, 0)) (some (9, 0))) (cond (Nat.blt s 8) (some (10, 0)) (cond (Nat.blt s 9) (some (11, 0)) none)))) (cond (Nat.blt s 3) (cond (Nat.blt s 1) (some (59, 0)) (cond (Nat.blt s 2) (some (60, 0)) (some (62, 0)))) (cond (Nat.blt s 5) (cond (Nat.blt s 4) none none) (cond (Nat.blt s 6) none none))))) (cond (Nat.blt k 4) (cond (Nat.blt s 3) (cond (Nat.blt s 1) none (cond (Nat.blt s 2) none none)) (cond (Nat.blt s 5) (cond (Nat.blt s 4) none (some (63, i))) (cond (Nat.blt s 6) (some (64, i)) none))) (cond (Nat.blt k 5) none (cond (Nat.blt s 3) (cond (Nat.blt s 1) (some (66, 0)) (cond (Nat.blt s 2) (some (67, 0)) (some (68, 0)))) (cond (Nat.blt s 5) (cond (Nat.blt s 4) (some (69, 0)) (some (70, 0))) (cond (Nat.blt s 6) none none)))))) (cond (Nat.blt k 9) (cond (Nat.blt k 7) (cond (Nat.blt s 4) (cond (Nat.blt s 2) (cond (Nat.blt s 1) (some (8, 0)) none) (cond (Nat.blt s 3) none none)) (cond (Nat.blt s 6) (cond (Nat.blt s 5) none none) (cond (Nat.blt s 7) none (cond (Nat.blt s 8) none none)))) (cond (Nat.blt k 8) (cond (Nat.blt s 5) (cond (Nat.blt s 2) (cond (Nat.blt s 1) (some (71, i)) none) (cond (Nat.blt s 3) (some (72, i)) (cond (Nat.blt s 4) none (some (73, i))))) (cond (Nat.blt s 7) (cond (Nat.blt s 6) (some (74, i)) (some (75, i))) (cond (Nat.blt s 8) (some (76, i)) (cond (Nat.blt s 9) (some (77, i)) none)))) (cond (Nat.blt s 2) (cond (Nat.blt s 1) (some (78, 0)) (some (79, 0))) (cond (Nat.blt s 3) (some (80, 0)) (cond (Nat.blt s 4) none none))))) (cond (Nat.blt k 11) (cond (Nat.blt k 10) (cond (Nat.blt s 3) (cond (Nat.blt s 1) (some (81, 0)) (cond (Nat.blt s 2) (some (82, 0)) (some (83, 0)))) (cond (Nat.blt s 4) (some (84, 0)) (cond (Nat.blt s 5) none none))) (cond (Nat.blt s 9) (cond (Nat.blt s 4) (cond (Nat.blt s 2) (cond (Nat.blt s 1) none (some (85, 0))) (cond (Nat.blt s 3) (some (86, 0)) (some (87, 0)))) (cond (Nat.blt s 6) (cond (Nat.blt s 5) (some (88, 0)) (some (89, 0))) (cond (Nat.blt s 7) (some (90, 0)) (cond (Nat.blt s 8) none (some (91, 0)))))) (cond (Nat.blt s 13) (cond (Nat.blt s 11) (cond (Nat.blt s 10) (some (92, 0)) (some (93, 0))) (cond (Nat.blt s 12) (some (94, 0)) (some (95, 0)))) (cond (Nat.blt s 15) (cond (Nat.blt s 14) (some (96, 0)) (some (97, 0))) (cond (Nat.blt s 16) none (cond (Nat.blt s 17) none none)))))) (cond (Nat.blt k 12) (cond (Nat.blt s 5) (cond (Nat.blt s 2) (cond (Nat.blt s 1) (some (98, 0)) (some (99, 0))) (cond (Nat.blt s 3) (some (100, 0)) (cond (Nat.blt s 4) (some (101, 0)) (some (102, 0))))) (cond (Nat.blt s 8) (cond (Nat.blt s 6) (some (103, 0)) (cond (Nat.blt s 7) none (some (104, 0)))) (cond (Nat.blt s 9) none (cond (Nat.blt s 10) none none)))) none)))) (cond (Nat.blt k 19) (cond (Nat.blt k 16) (cond (Nat.blt k 14) none (cond (Nat.blt k 15) none none)) (cond (Nat.blt k 17) none (cond (Nat.blt k 18) none none))) (cond (Nat.blt k 22) (cond (Nat.blt k 20) none (cond (Nat.blt k 21) none none)) (cond (Nat.blt k 24) (cond (Nat.blt k 23) none none) (cond (Nat.blt k 25) none none))))) (cond (Nat.blt k 39) (cond (Nat.blt k 32) (cond (Nat.blt k 29) (cond (Nat.blt k 27) none (cond (Nat.blt k 28) none none)) (cond (Nat.blt k 30) none (cond (Nat.blt k 31) none none))) (cond (Nat.blt k 35) (cond (Nat.blt k 33) none (cond (Nat.blt k 34) none none)) (cond (Nat.blt k 37) (cond (Nat.blt k 36) none none) (cond (Nat.blt k 38) none none)))) (cond (Nat.blt k 46) (cond (Nat.blt k 42) (cond (Nat.blt k 40) none (cond (Nat.blt k 41) none none)) (cond (Nat.blt k 44) (cond (Nat.blt k 43) none none) (cond (Nat.blt k 45) none none))) (cond (Nat.blt k 49) (cond (Nat.blt k 47) none (cond (Nat.blt k 48) none none)) (cond (Nat.blt k 51) (cond (Nat.blt k 50) none none) (cond (Nat.blt k 52) none none)))))) (cond (Nat.blt k 79) (cond (Nat.blt k 66) (cond (Nat.blt k 59) (cond (Nat.blt k 56) (cond (Nat.blt k 54) none (cond (Nat.blt k 55) none none)) (cond (Nat.blt k 57) none (cond (Nat.blt k 58) none none))) (cond (Nat.blt k 62) (cond (Nat.blt k 60) (some (3, s)) (cond (Nat.blt k 61) (some (61, s)) none)) (cond (Nat.blt k 64) (cond (Nat.blt k 63) none none) (cond (Nat.blt k 65) (some (65, 3 * i + s)) none)))) (cond (Nat.blt k 72) (cond (Nat.blt k 69) (cond (Nat.blt k 67) none (cond (Nat.blt k 68) none none)) (cond (Nat.blt k 70) none (cond (Nat.blt k 71) none none))) (cond (Nat.blt k 75) (cond (Nat.blt k 73) none (cond (Nat.blt k 74) none none)) (cond (Nat.blt k 77) (cond (Nat.blt k 76) none none) (cond (Nat.blt k 78) none none))))) (cond (Nat.blt k 92) (cond (Nat.blt k 85) (cond (Nat.blt k 82) (cond (Nat.blt k 80) none (cond (Nat.blt k 81) none none)) (cond (Nat.blt k 83) none (cond (Nat.blt k 84) none none))) (cond (Nat.blt k 88) (cond (Nat.blt k 86) none (cond (Nat.blt k 87) none none)) (cond (Nat.blt k 90) (cond (Nat.blt k 89) none none) (cond (Nat.blt k 91) none none)))) (cond (Nat.blt k 99) (cond (Nat.blt k 95) (cond (Nat.blt k 93) none (cond (Nat.blt k 94) none none)) (cond (Nat.blt k 97) (cond (Nat.blt k 96) none none) (cond (Nat.blt k 98) none none))) (cond (Nat.blt k 102) (cond (Nat.blt k 100) none (cond (Nat.blt k 101) none none)) (cond (Nat.blt k 104) (cond (Nat.blt k 103) none none) (cond (Nat.blt k 105) none none)))))))
def sh_dy (k s : Nat) : Option Nat := cond (Nat.beq k 6 && (Nat.beq s 4 || Nat.beq s 5)) (some 7) none
def sh_lg (k s : Nat) : Bool := Nat.beq k 0 && Nat.beq s 19
def sh_el (t : Nat) : FieldType := cond (Nat.beq t 0) .int (cond (Nat.beq t 1) .byte (cond (Nat.beq t 2) .short (cond (Nat.beq t 3) (.object "StoreRealm$Town") (.array .int))))
end
section
abbrev AV : Type := Int32 ⊕ Int64 ⊕ (Nat × Nat)
abbrev HS : Type := (Nat → Nat → Nat → Int32) × Int64
abbrev vI (x : Int32) : AV := .inl x
abbrev vL (x : Int64) : AV := .inr (.inl x)
abbrev vR (k i : Nat) : AV := .inr (.inr (k, i))
abbrev EE : Type := va_G × (Nat → ClassId) × (Nat → Nat → Nat)
abbrev MI : Type := MethodName × ByteArray × Nat × Option FieldType
def tv (E : EE) : AV → Value
  | .inl x => .int x
  | .inr (.inl x) => .long x
  | .inr (.inr q) => .ref (E.2.2 q.1 q.2)
def gv (σ : HS) (k i s : Nat) : AV := match sh_rf k i s with
  | some q => .inr (.inr q)
  | none => match sh_dy k s with
    | some k' => .inr (.inr (k', (σ.1 k i s).toNatClampNeg))
    | none => cond (sh_lg k s) (.inr (.inl σ.2)) (.inl (σ.1 k i s))
def up (σ : HS) (k i s : Nat) (x : Int32) : HS := (fun k' i' s' => if k' = k ∧ i' = i ∧ s' = s then x else σ.1 k' i' s', σ.2)
def intS (k i s : Nat) : Bool := (sh_rf k i s).isNone && (sh_dy k s).isNone && !sh_lg k s
theorem gv_int {σ : HS} {k i s : Nat} (h : intS k i s = true) : gv σ k i s = vI (σ.1 k i s) := by
  simp only [intS, Bool.and_eq_true, Option.isNone_iff_eq_none, Bool.not_eq_true'] at h
  obtain ⟨⟨h1, h2⟩, h3⟩ := h
  simp [gv, h1, h2, h3]
def Reg (E : EE) (q : Nat) : Prop := ∃ k i : Nat, k < sh_NK ∧ i < sh_cnt k ∧ q = E.2.2 k i
def Inj (E : EE) : Prop := ∀ k i k' i' : Nat, k < sh_NK → i < sh_cnt k → k' < sh_NK → i' < sh_cnt k' → E.2.2 k i = E.2.2 k' i' → k = k' ∧ i = i'
def RepC (E : EE) (σ : HS) (k i : Nat) (H : Heap) : Prop :=
  (∀ (ci : Nat) (r : vw_C), sh_obj k = some ci → vwCl[ci]? = some r → t_OB (E.2.2 k i) (E.1.1 ci) r.2.2 (E.1.2 ci) H (fun s => tv E (gv σ k i s))) ∧
  (∀ t n : Nat, sh_arr k = some (t, n) → H[E.2.2 k i]? = some (arrV (E.2.1 t) n (fun s => tv E (gv σ k i s))))
def Rep (E : EE) (σ : HS) (H : Heap) : Prop := ∀ k i : Nat, k < sh_NK → i < sh_cnt k → RepC E σ k i H
def WALL : List Cond := lw_tbl.filter goodWord
theorem WALL_in {w : Cond} (h : w ∈ lw_tbl) (hg : goodWord w = true) : w ∈ WALL := List.mem_filter.mpr ⟨h, hg⟩
theorem WALL_good {w : Cond} (h : w ∈ WALL) : (w.onTables && w.keeps) = true ∨ ∃ ty, w = .arrayClass ty := good_of_word (List.mem_filter.mp h).2
def NALL : List (String × Nat × MethodName × String) := [("StoreRealm$Land", 26, ⟨"StoreRealm$Town", "<init>", "()V"⟩, "StoreRealm"), ("StoreRealm", 18, ⟨"StoreRealm$Tally", "<init>", "()V"⟩, "StoreRealm"), ("StoreRealm", 25, ⟨"StoreRealm$Carriers", "<init>", "()V"⟩, "StoreRealm"), ("StoreRealm", 36, ⟨"StoreRealm$OrderBook", "<init>", "()V"⟩, "StoreRealm"), ("StoreRealm$OrderBook", 11, ⟨"StoreRealm$Tokens", "<init>", "()V"⟩, "StoreRealm"), ("StoreRealm$OrderBook", 20, ⟨"StoreRealm$Orders", "<init>", "()V"⟩, "StoreRealm"), ("StoreRealm", 43, ⟨"StoreRealm$Feasts", "<init>", "()V"⟩, "StoreRealm"), ("StoreRealm", 50, ⟨"StoreRealm$Planner", "<init>", "()V"⟩, "StoreRealm"), ("StoreRealm", 57, ⟨"StoreRealm$Ledger", "<init>", "()V"⟩, "StoreRealm"), ("StoreRealm$Land", 37, ⟨"StoreRealm", "within", "(III)Z"⟩, "StoreRealm"), ("StoreRealm$Tokens", 58, ⟨"StoreRealm", "within", "(III)Z"⟩, "StoreRealm"), ("StoreRealm$OrderBook", 108, ⟨"StoreRealm", "subject", "(II)I"⟩, "StoreRealm"), ("StoreRealm$Orders", 52, ⟨"StoreRealm", "within", "(III)Z"⟩, "StoreRealm"), ("StoreRealm$Orders", 64, ⟨"StoreRealm", "isKind", "(I)Z"⟩, "StoreRealm"), ("StoreRealm$Planner", 128, ⟨"StoreRealm", "monthsOnTheWay", "(I)I"⟩, "StoreRealm"), ("StoreRealm$Ledger", 40, ⟨"StoreRealm", "within", "(III)Z"⟩, "StoreRealm")]
def stTab : List (Nat × String) := [(62, "maize"), (68, "cloth"), (70, "meat"), (72, "when"), (74, "move"), (76, "from"), (78, "to"), (80, "or"), (82, "and"), (84, "not"), (86, "month"), (88, "people"), (90, "stock"), (92, "old"), (94, "room")]
def stLen : List Nat := [5, 5, 4, 4, 4, 4, 2, 2, 3, 3, 5, 6, 5, 3, 4]
def stByt : List (List Int32) := [[109, 97, 105, 122, 101], [99, 108, 111, 116, 104], [109, 101, 97, 116], [119, 104, 101, 110], [109, 111, 118, 101], [102, 114, 111, 109], [116, 111], [111, 114], [97, 110, 100], [110, 111, 116], [109, 111, 110, 116, 104], [112, 101, 111, 112, 108, 101], [115, 116, 111, 99, 107], [111, 108, 100], [114, 111, 111, 109]]
def KS (E : EE) (U : State) (H : Heap) : Prop := vk_S 15 stLen stByt (E.2.2 kStr) (E.2.2 kStrV) (Reg E) U H ∧ va_Z "java/lang/String" "COMPACT_STRINGS" "Z" (.int 1) (Reg E) U H ∧ ∀ (i : Nat) (q : Nat × String), stTab[i]? = some q → vk_R "StoreRealm$Tokens" q.1 q.2 (E.2.2 kStr i) U
def KK (E : EE) (U : State) (H : Heap) : Prop := (∀ (c : Nat) (q : vw_C), vwCl[c]? = some q → u_Kn U q.1 q.2.1 q.2.2 (E.1.1 c) (E.1.2 c)) ∧ (∀ t : Nat, t < 5 → ArrOfT U (E.2.1 t) (sh_el t)) ∧ (∀ q ∈ NALL, va_Nw (.methodLinkNest q.1 q.2.1 q.2.2.1 q.2.2.2) U) ∧ KS E U H
theorem KK.go {E : EE} {s U : State} {H0 H : Heap} (h : KK E s H0) (hW : s.WarmedH U.vm) (hk : ∀ a : Nat, a < H0.size → ¬ Reg E a → H[a]? = H0[a]?) : KK E U H := by
  obtain ⟨h1, h2, h3, h4, h5, h6⟩ := h
  have ha := hW.alike
  exact ⟨fun c q hq => u_Kn_moved ha (h1 c q hq), fun t ht => arrOfT_moved ha (h2 t ht), fun q hq => va_Nw.warmM hW (h3 q hq), (h4.moved ha).kept hk, (h5.moved ha).kept hk, fun i q hq => vk_R.warm hW (h6 i q hq)⟩
theorem KK.same {E : EE} {s U : State} {H : Heap} (h : KK E s H) (hv : U.vm = s.vm) : KK E U H := by
  obtain ⟨h1, h2, h3, h4, h5, h6⟩ := h
  have ha : s.vm.Alike U.vm := by rw [hv]; exact Vm.Alike.refl _
  exact ⟨fun c q hq => u_Kn_moved ha (h1 c q hq), fun t ht => arrOfT_moved ha (h2 t ht), fun q hq => va_Nw.same rfl hv.symm (h3 q hq), h4.moved ha, h5.moved ha, fun i q hq => vk_R.same hv (h6 i q hq)⟩
def rmD (d : Nat) : Room := { frames := d, cells := 0, slots := 0, locals := d * 64 }
def LV (E : EE) (lr : Array Slot) (nL : Nat) (ls : List (Option AV)) : Prop := lr.size = nL ∧ lv_wf lr ∧ ∀ (i : Nat) (v : AV), ls[i]? = some (some v) → lr[i]? = some (.val (tv E v))
def QC (E : EE) (Q : Option AV → HS → Prop) : Array Value → State → Outcome → State → Prop := fun _ st o t => (∃ (rv : Option AV) (σ : HS), o = .returned (rv.map (tv E)) ∧ Q rv σ ∧ Rep E σ t.heap ∧ KK E t t.heap) ∧ va_F (Reg E) st t
def ENV (E : EE) (M : MI) (p : Program) (s : State) (m : MethodId) (args : Array Value) (meth : Method) (c : Code) : Prop :=
  p.tables.exec = Jvm.exec ∧ c.code = M.2.1 ∧ c.maxLocals = M.2.2.1 ∧ meth.sig.returnType = M.2.2.2 ∧ s.vm.findClass M.1.cls = some m.cls ∧ (∀ w ∈ WALL, w.before args s = true) ∧ meth.locks = false ∧ Inj E ∧ KK E s s.heap
def EV (d : Nat) (M : MI) (pc : Nat) (ls : List (Option AV)) (st : List AV) (σ : HS) (Q : Option AV → HS → Prop) : Prop :=
  ∀ (E : EE) (p : Program) (l : Launch) (e : Env) (s : State) (m : MethodId) (args : Array Value) (below : List Frame) (meth : Method) (c : Code) (H : Heap) (locs : List Loc) (lr : Array Slot),
    ENV E M p s m args meth c → Rep E σ H → va_S (Reg E) s.heap H locs → LV E lr M.2.2.1 ls →
    W p l e (rmD d) s m args below meth c H locs 0 0 (MQ below (QC E Q) args s 0 0 (Reg E)) (F0 m pc lr (st.map (tv E)))
def catA : AV → Nat
  | .inr (.inl _) => 2
  | _ => 1
def entS (As : List AV) : List (Option AV) := As.flatMap (fun v => if catA v = 2 then [some v, none] else [some v])
def entL (M : MI) (As : List AV) : List (Option AV) := entS As ++ List.replicate (M.2.2.1 - (entS As).length) none
def MT (d : Nat) (M : MI) (As : List AV) (σ : HS) (Q : Option AV → HS → Prop) : Prop := EV d M 0 (entL M As) [] σ Q
theorem tv_cat (E : EE) (v : AV) : (tv E v).category = catA v := by
  rcases v with x | x | x <;> rfl
theorem tv_cats (E : EE) (st : List AV) : ((st.map (tv E)).map fun v => v.category) = st.map catA := by
  rw [List.map_map]
  exact List.map_congr_left (fun v _ => tv_cat E v)
theorem entS_sl (E : EE) (As : List AV) : lg_sl (As.map (tv E)) = (entS As).map (fun o => match o with | some v => Slot.val (tv E v) | none => Slot.second) := by
  induction As with
  | nil => rfl
  | cons v t ih =>
    have e1 : lg_sl ((v :: t).map (tv E)) = (if (tv E v).category = 2 then [.val (tv E v), .second] else [.val (tv E v)]) ++ lg_sl (t.map (tv E)) := by simp [lg_sl]
    have e2 : entS (v :: t) = (if catA v = 2 then [some v, none] else [some v]) ++ entS t := by simp [entS]
    rw [e1, e2, List.map_append, ih, tv_cat]
    congr 1
    by_cases h : catA v = 2
    · rw [if_pos h, if_pos h]; rfl
    · rw [if_neg h, if_neg h]; rfl
theorem MT.met {d : Nat} {M : MI} {As : List AV} {σ : HS} {Q : Option AV → HS → Prop} (h : MT d M As σ Q) (hpl : plainName M.1.cls = true) (hln : (entS As).length ≤ M.2.2.1) (E : EE) (hI : Inj E) (l : Launch) :
    Met l M.1 (Cond.code M.1 M.2.1 M.2.2.1 M.2.2.2 :: WALL) (rmD d) (va_Pc (As.map (tv E)) (fun U => Rep E σ U.heap ∧ KK E U U.heap)) (QC E Q) 0 0 (Reg E) := by
  refine Met.ofW (cc := M.2.1) (maxL := M.2.2.1) (ret := M.2.2.2) hpl rfl ?_
  intro p e s m args below meth c s₁ B hml hv
  obtain ⟨rfl, hR, hK⟩ := hv
  have hts := atoms_spec (ws := Cond.code M.1 M.2.1 M.2.2.1 M.2.2.2 :: WALL) B.pre
  have hsl : (lg_sl (As.map (tv E))).length = (entS As).length := by rw [entS_sl, List.length_map]
  have hl := lv_entry (As.map (tv E)) (n := M.2.2.1) (by rw [hsl]; exact hln)
  rw [lg_entry_eq]
  refine h E p l e s m _ below meth c s.heap [] _ ⟨B.exec, B.bytes, hml, B.returns, findClass_of_methodNamed B.named, fun w hw => hts w (List.mem_cons_of_mem _ hw), B.notSynchronized, hI, hK⟩ hR va_S.rf ⟨hl.1, hl.2.1, fun i v hi => ?_⟩
  unfold entL at hi
  by_cases hlt : i < (entS As).length
  · rw [List.getElem?_append_left hlt] at hi
    rw [entS_sl, List.getElem?_toArray, List.getElem?_append_left (by rw [List.length_map]; exact hlt), List.getElem?_map, hi]
    rfl
  · rw [List.getElem?_append_right (by omega)] at hi
    have hm := List.mem_of_getElem? hi
    rw [List.mem_replicate] at hm
    exact absurd hm.2 (by simp)
theorem LV.weak {E : EE} {lr : Array Slot} {n : Nat} {ls ls' : List (Option AV)} (h : LV E lr n ls) (hw : ∀ (i : Nat) (v : AV), ls'[i]? = some (some v) → ls[i]? = some (some v)) : LV E lr n ls' := ⟨h.1, h.2.1, fun i v hv => h.2.2 i v (hw i v hv)⟩
def maskL : List Bool → List (Option AV) → List (Option AV)
  | b :: bs, x :: xs => (cond b x none) :: maskL bs xs
  | _, _ => []
theorem maskL_get : ∀ (bs : List Bool) (ls : List (Option AV)) (i : Nat) (v : AV), (maskL bs ls)[i]? = some (some v) → ls[i]? = some (some v)
  | [], ls, i, v, h => by simp [maskL] at h
  | b :: bs, [], i, v, h => by simp [maskL] at h
  | b :: bs, x :: xs, 0, v, h => by
    cases b
    · simp [maskL] at h
    · simpa [maskL] using h
  | b :: bs, x :: xs, i + 1, v, h => by
    simp only [maskL, List.getElem?_cons_succ] at h ⊢
    exact maskL_get bs xs i v h
theorem EV.mask {d : Nat} {M : MI} {pc : Nat} {ls : List (Option AV)} {st : List AV} {σ : HS} {Q : Option AV → HS → Prop} (bs : List Bool) (k : EV d M pc (maskL bs ls) st σ Q) : EV d M pc ls st σ Q :=
  fun E p l e s m args below meth c H locs lr he hR hS hL => k E p l e s m args below meth c H locs lr he hR hS (hL.weak (maskL_get bs ls))
theorem W.mono {p : Program} {l : Launch} {e : Env} {R : Room} {s : State} {m : MethodId} {args : Array Value} {below : List Frame} {meth : Method} {c : Code} {H : Heap} {locs : List Loc} {cells slots : Nat} {Q Q' : State → Prop} {g : JFrame} (h : W p l e R s m args below meth c H locs cells slots Q g) (hq : ∀ t, Q t → Q' t) : W p l e R s m args below meth c H locs cells slots Q' g := by
  intro T hT X
  obtain ⟨t, a, b⟩ := h T hT X
  exact ⟨t, a, hq t b⟩
theorem EV.mono {d : Nat} {M : MI} {pc : Nat} {ls : List (Option AV)} {st : List AV} {σ : HS} {Q Q' : Option AV → HS → Prop} (h : EV d M pc ls st σ Q) (hq : ∀ r σ', Q r σ' → Q' r σ') : EV d M pc ls st σ Q' := by
  intro E p l e s m args below meth c H locs lr he hR hS hL
  refine W.mono (h E p l e s m args below meth c H locs lr he hR hS hL) ?_
  rintro t ⟨o, h1, h2, ⟨⟨rv, σ', h3, h4, h5⟩, h6⟩, h7⟩
  exact ⟨o, h1, h2, ⟨⟨rv, σ', h3, hq _ _ h4, h5⟩, h6⟩, h7⟩
theorem MT.mono {d : Nat} {M : MI} {As : List AV} {σ : HS} {Q Q' : Option AV → HS → Prop} (h : MT d M As σ Q) (hq : ∀ r σ', Q r σ' → Q' r σ') : MT d M As σ Q' := EV.mono h hq
def bI (P : Prop) [Decidable P] : Int32 := if P then 1 else 0
theorem bI_t {P : Prop} [Decidable P] (h : P) : bI P = 1 := if_pos h
theorem bI_f {P : Prop} [Decidable P] (h : ¬ P) : bI P = 0 := if_neg h
theorem bI_nar {P : Prop} [Decidable P] : narrow .boolean (.int (bI P)) = .int (bI P) := by
  by_cases h : P
  · rw [bI_t h]; rfl
  · rw [bI_f h]; rfl
theorem bI_1 : (1 : Int32) = bI True := rfl
theorem bI_0 : (0 : Int32) = bI False := rfl
section EVR
variable {d : Nat} {M : MI} {pc : Nat} {ls : List (Option AV)} {st : List AV} {σ : HS} {Q : Option AV → HS → Prop}
theorem EV.iconst {n : Int} {v : Int32} (h : decode M.2.1 pc = .ok (.iconst n, 1)) (hv : Int32.ofInt n = v) (k : EV d M (pc + 1) ls (vI v :: st) σ Q) : EV d M pc ls (st) σ Q :=
  fun E p l e s m args below meth c H locs lr he hR hS hL => lv_iconst he.1 he.2.1 h hv (k E p l e s m args below meth c H locs lr he hR hS hL)
theorem EV.bipush {n : Int} {v : Int32} (h : decode M.2.1 pc = .ok (.bipush n, 2)) (hv : (Int8.ofInt n).toInt32 = v) (k : EV d M (pc + 2) ls (vI v :: st) σ Q) : EV d M pc ls (st) σ Q :=
  fun E p l e s m args below meth c H locs lr he hR hS hL => lv_bipush he.1 he.2.1 h hv (k E p l e s m args below meth c H locs lr he hR hS hL)
theorem EV.sipush {n : Int} {v : Int32} (h : decode M.2.1 pc = .ok (.sipush n, 3)) (hv : (Int16.ofInt n).toInt32 = v) (k : EV d M (pc + 3) ls (vI v :: st) σ Q) : EV d M pc ls (st) σ Q :=
  fun E p l e s m args below meth c H locs lr he hR hS hL => lv_sipush he.1 he.2.1 h hv (k E p l e s m args below meth c H locs lr he hR hS hL)
theorem EV.lconst {n : Fin 2} {v : Int64} (h : decode M.2.1 pc = .ok (.lconst n, 1)) (hv : Int64.ofNat (n : Nat) = v) (k : EV d M (pc + 1) ls (vL v :: st) σ Q) : EV d M pc ls (st) σ Q :=
  fun E p l e s m args below meth c H locs lr he hR hS hL => lv_lconst he.1 he.2.1 h hv (k E p l e s m args below meth c H locs lr he hR hS hL)
theorem EV.iload_n {j : Fin 4} {x : Int32} (h : decode M.2.1 pc = .ok (.iload_n j, 1)) (hl : ls[(j : Nat)]? = some (some (vI x))) (k : EV d M (pc + 1) ls (vI x :: st) σ Q) : EV d M pc ls (st) σ Q :=
  fun E p l e s m args below meth c H locs lr he hR hS hL => lv_iload_n he.1 he.2.1 h rfl (hL.2.2 _ _ hl) (k E p l e s m args below meth c H locs lr he hR hS hL)
theorem EV.iload {j : Nat} {x : Int32} (h : decode M.2.1 pc = .ok (.iload j, 2)) (hl : ls[j]? = some (some (vI x))) (k : EV d M (pc + 2) ls (vI x :: st) σ Q) : EV d M pc ls (st) σ Q :=
  fun E p l e s m args below meth c H locs lr he hR hS hL => lv_iload he.1 he.2.1 h (hL.2.2 _ _ hl) (k E p l e s m args below meth c H locs lr he hR hS hL)
theorem EV.lload_n {j : Fin 4} {x : Int64} (h : decode M.2.1 pc = .ok (.lload_n j, 1)) (hl : ls[(j : Nat)]? = some (some (vL x))) (k : EV d M (pc + 1) ls (vL x :: st) σ Q) : EV d M pc ls (st) σ Q :=
  fun E p l e s m args below meth c H locs lr he hR hS hL => lv_lload_n he.1 he.2.1 h rfl (hL.2.2 _ _ hl) (k E p l e s m args below meth c H locs lr he hR hS hL)
theorem EV.aload_n {j : Fin 4} {a b : Nat} (h : decode M.2.1 pc = .ok (.aload_n j, 1)) (hl : ls[(j : Nat)]? = some (some (vR a b))) (k : EV d M (pc + 1) ls (vR a b :: st) σ Q) : EV d M pc ls (st) σ Q :=
  fun E p l e s m args below meth c H locs lr he hR hS hL => lv_aload_n he.1 he.2.1 h rfl (hL.2.2 _ _ hl) (k E p l e s m args below meth c H locs lr he hR hS hL)
theorem EV.aload {j : Nat} {a b : Nat} (h : decode M.2.1 pc = .ok (.aload j, 2)) (hl : ls[j]? = some (some (vR a b))) (k : EV d M (pc + 2) ls (vR a b :: st) σ Q) : EV d M pc ls (st) σ Q :=
  fun E p l e s m args below meth c H locs lr he hR hS hL => lv_aload he.1 he.2.1 h (hL.2.2 _ _ hl) (k E p l e s m args below meth c H locs lr he hR hS hL)
theorem EV.iadd {x y : Int32} (h : decode M.2.1 pc = .ok (.iadd, 1)) (k : EV d M (pc + 1) ls (vI (x + y) :: st) σ Q) : EV d M pc ls (vI y :: vI x :: st) σ Q :=
  fun E p l e s m args below meth c H locs lr he hR hS hL => lv_iadd he.1 he.2.1 h (k E p l e s m args below meth c H locs lr he hR hS hL)
theorem EV.isub {x y : Int32} (h : decode M.2.1 pc = .ok (.isub, 1)) (k : EV d M (pc + 1) ls (vI (x - y) :: st) σ Q) : EV d M pc ls (vI y :: vI x :: st) σ Q :=
  fun E p l e s m args below meth c H locs lr he hR hS hL => lv_isub he.1 he.2.1 h (k E p l e s m args below meth c H locs lr he hR hS hL)
theorem EV.imul {x y : Int32} (h : decode M.2.1 pc = .ok (.imul, 1)) (k : EV d M (pc + 1) ls (vI (x * y) :: st) σ Q) : EV d M pc ls (vI y :: vI x :: st) σ Q :=
  fun E p l e s m args below meth c H locs lr he hR hS hL => lv_imul he.1 he.2.1 h (k E p l e s m args below meth c H locs lr he hR hS hL)
theorem EV.iand {x y : Int32} (h : decode M.2.1 pc = .ok (.iand, 1)) (k : EV d M (pc + 1) ls (vI (x &&& y) :: st) σ Q) : EV d M pc ls (vI y :: vI x :: st) σ Q :=
  fun E p l e s m args below meth c H locs lr he hR hS hL => lv_iand he.1 he.2.1 h (k E p l e s m args below meth c H locs lr he hR hS hL)
theorem EV.ior {x y : Int32} (h : decode M.2.1 pc = .ok (.ior, 1)) (k : EV d M (pc + 1) ls (vI (x ||| y) :: st) σ Q) : EV d M pc ls (vI y :: vI x :: st) σ Q :=
  fun E p l e s m args below meth c H locs lr he hR hS hL => lv_ior he.1 he.2.1 h (k E p l e s m args below meth c H locs lr he hR hS hL)
theorem EV.ixor {x y : Int32} (h : decode M.2.1 pc = .ok (.ixor, 1)) (k : EV d M (pc + 1) ls (vI (x ^^^ y) :: st) σ Q) : EV d M pc ls (vI y :: vI x :: st) σ Q :=
  fun E p l e s m args below meth c H locs lr he hR hS hL => lv_ixor he.1 he.2.1 h (k E p l e s m args below meth c H locs lr he hR hS hL)
theorem EV.ishl {x y : Int32} (h : decode M.2.1 pc = .ok (.ishl, 1)) (k : EV d M (pc + 1) ls (vI (x <<< (y &&& 31)) :: st) σ Q) : EV d M pc ls (vI y :: vI x :: st) σ Q :=
  fun E p l e s m args below meth c H locs lr he hR hS hL => lv_ishl he.1 he.2.1 h (k E p l e s m args below meth c H locs lr he hR hS hL)
theorem EV.ishr {x y : Int32} (h : decode M.2.1 pc = .ok (.ishr, 1)) (k : EV d M (pc + 1) ls (vI (x >>> (y &&& 31)) :: st) σ Q) : EV d M pc ls (vI y :: vI x :: st) σ Q :=
  fun E p l e s m args below meth c H locs lr he hR hS hL => lv_ishr he.1 he.2.1 h (k E p l e s m args below meth c H locs lr he hR hS hL)
theorem EV.ineg {x : Int32} (h : decode M.2.1 pc = .ok (.ineg, 1)) (k : EV d M (pc + 1) ls (vI (-x) :: st) σ Q) : EV d M pc ls (vI x :: st) σ Q :=
  fun E p l e s m args below meth c H locs lr he hR hS hL => lv_ineg he.1 he.2.1 h (k E p l e s m args below meth c H locs lr he hR hS hL)
theorem EV.idiv {x y : Int32} (h : decode M.2.1 pc = .ok (.idiv, 1)) (hne : ¬ y = 0) (k : EV d M (pc + 1) ls (vI (x / y) :: st) σ Q) : EV d M pc ls (vI y :: vI x :: st) σ Q :=
  fun E p l e s m args below meth c H locs lr he hR hS hL => lv_idiv he.1 he.2.1 h hne (k E p l e s m args below meth c H locs lr he hR hS hL)
theorem EV.irem {x y : Int32} (h : decode M.2.1 pc = .ok (.irem, 1)) (hne : ¬ y = 0) (k : EV d M (pc + 1) ls (vI (x - x / y * y) :: st) σ Q) : EV d M pc ls (vI y :: vI x :: st) σ Q :=
  fun E p l e s m args below meth c H locs lr he hR hS hL => lv_irem he.1 he.2.1 h hne (k E p l e s m args below meth c H locs lr he hR hS hL)
theorem EV.lor {x y : Int64} (h : decode M.2.1 pc = .ok (.lor, 1)) (k : EV d M (pc + 1) ls (vL (x ||| y) :: st) σ Q) : EV d M pc ls (vL y :: vL x :: st) σ Q :=
  fun E p l e s m args below meth c H locs lr he hR hS hL => lv_lor he.1 he.2.1 h (k E p l e s m args below meth c H locs lr he hR hS hL)
theorem EV.ladd {x y : Int64} (h : decode M.2.1 pc = .ok (.ladd, 1)) (k : EV d M (pc + 1) ls (vL (x + y) :: st) σ Q) : EV d M pc ls (vL y :: vL x :: st) σ Q :=
  fun E p l e s m args below meth c H locs lr he hR hS hL => lv_ladd he.1 he.2.1 h (k E p l e s m args below meth c H locs lr he hR hS hL)
theorem EV.lshl {x v : Int64} {y : Int32} (h : decode M.2.1 pc = .ok (.lshl, 1)) (hv : x <<< (y.toInt64 &&& 63) = v) (k : EV d M (pc + 1) ls (vL v :: st) σ Q) : EV d M pc ls (vI y :: vL x :: st) σ Q :=
  fun E p l e s m args below meth c H locs lr he hR hS hL => lv_lshl he.1 he.2.1 h hv (k E p l e s m args below meth c H locs lr he hR hS hL)
theorem EV.i2l {x : Int32} {v : Int64} (h : decode M.2.1 pc = .ok (.i2l, 1)) (hv : x.toInt64 = v) (k : EV d M (pc + 1) ls (vL v :: st) σ Q) : EV d M pc ls (vI x :: st) σ Q :=
  fun E p l e s m args below meth c H locs lr he hR hS hL => lv_i2l he.1 he.2.1 h hv (k E p l e s m args below meth c H locs lr he hR hS hL)
theorem EV.i2b {x v : Int32} (h : decode M.2.1 pc = .ok (.i2b, 1)) (hv : x.toInt8.toInt32 = v) (k : EV d M (pc + 1) ls (vI v :: st) σ Q) : EV d M pc ls (vI x :: st) σ Q :=
  fun E p l e s m args below meth c H locs lr he hR hS hL => lv_i2b he.1 he.2.1 h hv (k E p l e s m args below meth c H locs lr he hR hS hL)
theorem EV.i2s {x v : Int32} (h : decode M.2.1 pc = .ok (.i2s, 1)) (hv : x.toInt16.toInt32 = v) (k : EV d M (pc + 1) ls (vI v :: st) σ Q) : EV d M pc ls (vI x :: st) σ Q :=
  fun E p l e s m args below meth c H locs lr he hR hS hL => lv_i2s he.1 he.2.1 h hv (k E p l e s m args below meth c H locs lr he hR hS hL)
theorem EV.i2c {x v : Int32} (h : decode M.2.1 pc = .ok (.i2c, 1)) (hv : (x.toUInt32 % 65536).toInt32 = v) (k : EV d M (pc + 1) ls (vI v :: st) σ Q) : EV d M pc ls (vI x :: st) σ Q :=
  fun E p l e s m args below meth c H locs lr he hR hS hL => lv_i2c he.1 he.2.1 h hv (k E p l e s m args below meth c H locs lr he hR hS hL)
theorem EV.lcmp {x y : Int64} (h : decode M.2.1 pc = .ok (.lcmp, 1)) (k : EV d M (pc + 1) ls (vI (lg_cmp x y) :: st) σ Q) : EV d M pc ls (vL y :: vL x :: st) σ Q :=
  fun E p l e s m args below meth c H locs lr he hR hS hL => W.lcmp he.1 he.2.1 h (k E p l e s m args below meth c H locs lr he hR hS hL)
theorem EV.dup {v : AV} (h : decode M.2.1 pc = .ok (.dup, 1)) (hc : catA v = 1) (k : EV d M (pc + 1) ls (v :: v :: st) σ Q) : EV d M pc ls (v :: st) σ Q :=
  fun E p l e s m args below meth c H locs lr he hR hS hL => lv_dup he.1 he.2.1 h ((tv_cat E v).trans hc) (k E p l e s m args below meth c H locs lr he hR hS hL)
theorem EV.pop {v : AV} (h : decode M.2.1 pc = .ok (.pop, 1)) (hc : catA v = 1) (k : EV d M (pc + 1) ls (st) σ Q) : EV d M pc ls (v :: st) σ Q :=
  fun E p l e s m args below meth c H locs lr he hR hS hL => lv_pop he.1 he.2.1 h ((tv_cat E v).trans hc) (k E p l e s m args below meth c H locs lr he hR hS hL)
theorem EV.dup2 {v w : AV} (h : decode M.2.1 pc = .ok (.dup2, 1)) (hc : catA v = 1) (hc2 : catA w = 1) (k : EV d M (pc + 1) ls (v :: w :: v :: w :: st) σ Q) : EV d M pc ls (v :: w :: st) σ Q :=
  fun E p l e s m args below meth c H locs lr he hR hS hL => lv_dup2_11 he.1 he.2.1 h ((tv_cat E v).trans hc) ((tv_cat E w).trans hc2) (k E p l e s m args below meth c H locs lr he hR hS hL)
theorem EV.dup_x1 {v w : AV} (h : decode M.2.1 pc = .ok (.dup_x1, 1)) (hc : catA v = 1) (hc2 : catA w = 1) (k : EV d M (pc + 1) ls (v :: w :: v :: st) σ Q) : EV d M pc ls (v :: w :: st) σ Q :=
  fun E p l e s m args below meth c H locs lr he hR hS hL => lv_dup_x1 he.1 he.2.1 h ((tv_cat E v).trans hc) ((tv_cat E w).trans hc2) (k E p l e s m args below meth c H locs lr he hR hS hL)
theorem EV.if_eq {x : Int32} {off : Int} {tgt : Nat} (h : decode M.2.1 pc = .ok (.ifCond .eq off, 3)) (ht : (pc : Int) + off = (tgt : Int)) (kt : x = 0 → EV d M tgt ls st σ Q) (kf : ¬ x = 0 → EV d M (pc + 3) ls st σ Q) : EV d M pc ls (vI x :: st) σ Q :=
  fun E p l e s m args below meth c H locs lr he hR hS hL => lv_if_eq he.1 he.2.1 h ht (fun q => kt q E p l e s m args below meth c H locs lr he hR hS hL) (fun q => kf q E p l e s m args below meth c H locs lr he hR hS hL)
theorem EV.if_ne {x : Int32} {off : Int} {tgt : Nat} (h : decode M.2.1 pc = .ok (.ifCond .ne off, 3)) (ht : (pc : Int) + off = (tgt : Int)) (kt : ¬ x = 0 → EV d M tgt ls st σ Q) (kf : x = 0 → EV d M (pc + 3) ls st σ Q) : EV d M pc ls (vI x :: st) σ Q :=
  fun E p l e s m args below meth c H locs lr he hR hS hL => lv_if_ne he.1 he.2.1 h ht (fun q => kt q E p l e s m args below meth c H locs lr he hR hS hL) (fun q => kf q E p l e s m args below meth c H locs lr he hR hS hL)
theorem EV.if_lt {x : Int32} {off : Int} {tgt : Nat} (h : decode M.2.1 pc = .ok (.ifCond .lt off, 3)) (ht : (pc : Int) + off = (tgt : Int)) (kt : x < 0 → EV d M tgt ls st σ Q) (kf : ¬ x < 0 → EV d M (pc + 3) ls st σ Q) : EV d M pc ls (vI x :: st) σ Q :=
  fun E p l e s m args below meth c H locs lr he hR hS hL => lv_if_lt he.1 he.2.1 h ht (fun q => kt q E p l e s m args below meth c H locs lr he hR hS hL) (fun q => kf q E p l e s m args below meth c H locs lr he hR hS hL)
theorem EV.if_ge {x : Int32} {off : Int} {tgt : Nat} (h : decode M.2.1 pc = .ok (.ifCond .ge off, 3)) (ht : (pc : Int) + off = (tgt : Int)) (kt : 0 ≤ x → EV d M tgt ls st σ Q) (kf : ¬ 0 ≤ x → EV d M (pc + 3) ls st σ Q) : EV d M pc ls (vI x :: st) σ Q :=
  fun E p l e s m args below meth c H locs lr he hR hS hL => lv_if_ge he.1 he.2.1 h ht (fun q => kt q E p l e s m args below meth c H locs lr he hR hS hL) (fun q => kf q E p l e s m args below meth c H locs lr he hR hS hL)
theorem EV.if_gt {x : Int32} {off : Int} {tgt : Nat} (h : decode M.2.1 pc = .ok (.ifCond .gt off, 3)) (ht : (pc : Int) + off = (tgt : Int)) (kt : 0 < x → EV d M tgt ls st σ Q) (kf : ¬ 0 < x → EV d M (pc + 3) ls st σ Q) : EV d M pc ls (vI x :: st) σ Q :=
  fun E p l e s m args below meth c H locs lr he hR hS hL => lv_if_gt he.1 he.2.1 h ht (fun q => kt q E p l e s m args below meth c H locs lr he hR hS hL) (fun q => kf q E p l e s m args below meth c H locs lr he hR hS hL)
theorem EV.if_le {x : Int32} {off : Int} {tgt : Nat} (h : decode M.2.1 pc = .ok (.ifCond .le off, 3)) (ht : (pc : Int) + off = (tgt : Int)) (kt : x ≤ 0 → EV d M tgt ls st σ Q) (kf : ¬ x ≤ 0 → EV d M (pc + 3) ls st σ Q) : EV d M pc ls (vI x :: st) σ Q :=
  fun E p l e s m args below meth c H locs lr he hR hS hL => lv_if_le he.1 he.2.1 h ht (fun q => kt q E p l e s m args below meth c H locs lr he hR hS hL) (fun q => kf q E p l e s m args below meth c H locs lr he hR hS hL)
theorem EV.icmp_eq {x y : Int32} {off : Int} {tgt : Nat} (h : decode M.2.1 pc = .ok (.if_icmp .eq off, 3)) (ht : (pc : Int) + off = (tgt : Int)) (kt : x = y → EV d M tgt ls st σ Q) (kf : ¬ x = y → EV d M (pc + 3) ls st σ Q) : EV d M pc ls (vI y :: vI x :: st) σ Q :=
  fun E p l e s m args below meth c H locs lr he hR hS hL => lv_icmp_eq he.1 he.2.1 h ht (fun q => kt q E p l e s m args below meth c H locs lr he hR hS hL) (fun q => kf q E p l e s m args below meth c H locs lr he hR hS hL)
theorem EV.icmp_ne {x y : Int32} {off : Int} {tgt : Nat} (h : decode M.2.1 pc = .ok (.if_icmp .ne off, 3)) (ht : (pc : Int) + off = (tgt : Int)) (kt : ¬ x = y → EV d M tgt ls st σ Q) (kf : x = y → EV d M (pc + 3) ls st σ Q) : EV d M pc ls (vI y :: vI x :: st) σ Q :=
  fun E p l e s m args below meth c H locs lr he hR hS hL => lv_icmp_ne he.1 he.2.1 h ht (fun q => kt q E p l e s m args below meth c H locs lr he hR hS hL) (fun q => kf q E p l e s m args below meth c H locs lr he hR hS hL)
theorem EV.icmp_lt {x y : Int32} {off : Int} {tgt : Nat} (h : decode M.2.1 pc = .ok (.if_icmp .lt off, 3)) (ht : (pc : Int) + off = (tgt : Int)) (kt : x < y → EV d M tgt ls st σ Q) (kf : ¬ x < y → EV d M (pc + 3) ls st σ Q) : EV d M pc ls (vI y :: vI x :: st) σ Q :=
  fun E p l e s m args below meth c H locs lr he hR hS hL => lv_icmp_lt he.1 he.2.1 h ht (fun q => kt q E p l e s m args below meth c H locs lr he hR hS hL) (fun q => kf q E p l e s m args below meth c H locs lr he hR hS hL)
theorem EV.icmp_ge {x y : Int32} {off : Int} {tgt : Nat} (h : decode M.2.1 pc = .ok (.if_icmp .ge off, 3)) (ht : (pc : Int) + off = (tgt : Int)) (kt : y ≤ x → EV d M tgt ls st σ Q) (kf : ¬ y ≤ x → EV d M (pc + 3) ls st σ Q) : EV d M pc ls (vI y :: vI x :: st) σ Q :=
  fun E p l e s m args below meth c H locs lr he hR hS hL => lv_icmp_ge he.1 he.2.1 h ht (fun q => kt q E p l e s m args below meth c H locs lr he hR hS hL) (fun q => kf q E p l e s m args below meth c H locs lr he hR hS hL)
theorem EV.icmp_gt {x y : Int32} {off : Int} {tgt : Nat} (h : decode M.2.1 pc = .ok (.if_icmp .gt off, 3)) (ht : (pc : Int) + off = (tgt : Int)) (kt : y < x → EV d M tgt ls st σ Q) (kf : ¬ y < x → EV d M (pc + 3) ls st σ Q) : EV d M pc ls (vI y :: vI x :: st) σ Q :=
  fun E p l e s m args below meth c H locs lr he hR hS hL => lv_icmp_gt he.1 he.2.1 h ht (fun q => kt q E p l e s m args below meth c H locs lr he hR hS hL) (fun q => kf q E p l e s m args below meth c H locs lr he hR hS hL)
theorem EV.icmp_le {x y : Int32} {off : Int} {tgt : Nat} (h : decode M.2.1 pc = .ok (.if_icmp .le off, 3)) (ht : (pc : Int) + off = (tgt : Int)) (kt : x ≤ y → EV d M tgt ls st σ Q) (kf : ¬ x ≤ y → EV d M (pc + 3) ls st σ Q) : EV d M pc ls (vI y :: vI x :: st) σ Q :=
  fun E p l e s m args below meth c H locs lr he hR hS hL => lv_icmp_le he.1 he.2.1 h ht (fun q => kt q E p l e s m args below meth c H locs lr he hR hS hL) (fun q => kf q E p l e s m args below meth c H locs lr he hR hS hL)
theorem EV.if_eqB {P : Prop} [Decidable P] {off : Int} {tgt : Nat} (h : decode M.2.1 pc = .ok (.ifCond .eq off, 3)) (ht : (pc : Int) + off = (tgt : Int)) (kt : ¬ P → EV d M tgt ls st σ Q) (kf : P → EV d M (pc + 3) ls st σ Q) : EV d M pc ls (vI (bI P) :: st) σ Q :=
  EV.if_eq h ht (fun q => kt (fun hp => by rw [bI_t hp] at q; cases q)) (fun q => kf (Classical.byContradiction fun hp => q (bI_f hp)))
theorem EV.if_neB {P : Prop} [Decidable P] {off : Int} {tgt : Nat} (h : decode M.2.1 pc = .ok (.ifCond .ne off, 3)) (ht : (pc : Int) + off = (tgt : Int)) (kt : P → EV d M tgt ls st σ Q) (kf : ¬ P → EV d M (pc + 3) ls st σ Q) : EV d M pc ls (vI (bI P) :: st) σ Q :=
  EV.if_ne h ht (fun q => kt (Classical.byContradiction fun hp => q (bI_f hp))) (fun q => kf (fun hp => by rw [bI_t hp] at q; cases q))
theorem EV.goto {off : Int} {tgt : Nat} (h : decode M.2.1 pc = .ok (.goto off, 3)) (ht : (pc : Int) + off = (tgt : Int)) (k : EV d M tgt ls st σ Q) : EV d M pc ls st σ Q :=
  fun E p l e s m args below meth c H locs lr he hR hS hL => lv_goto he.1 he.2.1 h ht (k E p l e s m args below meth c H locs lr he hR hS hL)
def noL (ls : List (Option AV)) : Bool := ls.all (fun o => match o with | some v => catA v == 1 | none => true)
def pairsOf (E : EE) (ls : List (Option AV)) : List (Nat × Value) := (List.range ls.length).filterMap (fun i => match ls[i]? with | some (some v) => some (i, tv E v) | _ => none)
theorem pairs_mem {E : EE} {ls : List (Option AV)} {i : Nat} {v : AV} (h : ls[i]? = some (some v)) : (i, tv E v) ∈ pairsOf E ls := by
  refine List.mem_filterMap.mpr ⟨i, List.mem_range.mpr (List.getElem?_eq_some_iff.mp h).1, ?_⟩
  rw [h]
theorem pairs_of {E : EE} {ls : List (Option AV)} {q : Nat × Value} (h : q ∈ pairsOf E ls) : ∃ v, ls[q.1]? = some (some v) ∧ q.2 = tv E v := by
  obtain ⟨i, -, hi⟩ := List.mem_filterMap.mp h
  rcases hc : ls[i]? with _ | (_ | v)
  · rw [hc] at hi; cases hi
  · rw [hc] at hi; cases hi
  · rw [hc] at hi; cases hi; exact ⟨v, hc, rfl⟩
theorem LV.has {E : EE} {lr : Array Slot} {n : Nat} {ls : List (Option AV)} (h : LV E lr n ls) : lv_has lr n (pairsOf E ls) := ⟨h.1, h.2.1, fun q hq => by
  obtain ⟨v, h1, h2⟩ := pairs_of hq
  rw [h2]
  exact h.2.2 _ _ h1⟩
theorem LV.set {E : EE} {lr : Array Slot} {n j : Nat} {ls : List (Option AV)} {v : AV} (hn : noL ls = true) (h : lv_has lr n ((j, tv E v) :: (pairsOf E ls).filter (fun q => !(q.1 == j) && !(q.1 + 1 == j && q.2.category == 2)))) : LV E lr n (ls.set j (some v)) := by
  refine ⟨h.1, h.2.1, fun i w hi => ?_⟩
  by_cases hij : i = j
  · subst hij
    by_cases hlt : i < ls.length
    · rw [List.getElem?_set_self hlt] at hi
      cases hi
      exact h.2.2 (i, tv E v) List.mem_cons_self
    · rw [List.getElem?_eq_none (by rw [List.length_set]; omega)] at hi
      cases hi
  · rw [List.getElem?_set_ne (Ne.symm hij)] at hi
    refine h.2.2 (i, tv E w) (List.mem_cons_of_mem _ (List.mem_filter.mpr ⟨pairs_mem hi, ?_⟩))
    have hc : catA w = 1 := by
      have := List.all_eq_true.mp hn _ (List.mem_of_getElem? hi)
      simpa using this
    simp [tv_cat, hc, hij]
theorem EV.istore_n {j : Fin 4} {x : Int32} (h : decode M.2.1 pc = .ok (.istore_n j, 1)) (hj : (j : Nat) < M.2.2.1) (hn : noL ls = true) (k : EV d M (pc + 1) (ls.set (j : Nat) (some (vI x))) st σ Q) : EV d M pc ls (vI x :: st) σ Q :=
  fun E p l e s m args below meth c H locs lr he hR hS hL => lv_istore_n he.1 he.2.1 h rfl hL.has hj rfl (fun lr2 h2 => k E p l e s m args below meth c H locs lr2 he hR hS (LV.set (v := vI x) hn h2))
theorem EV.istore {j : Nat} {x : Int32} (h : decode M.2.1 pc = .ok (.istore j, 2)) (hj : (j : Nat) < M.2.2.1) (hn : noL ls = true) (k : EV d M (pc + 2) (ls.set (j : Nat) (some (vI x))) st σ Q) : EV d M pc ls (vI x :: st) σ Q :=
  fun E p l e s m args below meth c H locs lr he hR hS hL => lv_istore he.1 he.2.1 h hL.has hj rfl (fun lr2 h2 => k E p l e s m args below meth c H locs lr2 he hR hS (LV.set (v := vI x) hn h2))
theorem EV.astore_n {j : Fin 4} {a b : Nat} (h : decode M.2.1 pc = .ok (.astore_n j, 1)) (hj : (j : Nat) < M.2.2.1) (hn : noL ls = true) (k : EV d M (pc + 1) (ls.set (j : Nat) (some (vR a b))) st σ Q) : EV d M pc ls (vR a b :: st) σ Q :=
  fun E p l e s m args below meth c H locs lr he hR hS hL => lv_astore_n he.1 he.2.1 h rfl hL.has hj rfl (fun lr2 h2 => k E p l e s m args below meth c H locs lr2 he hR hS (LV.set (v := vR a b) hn h2))
theorem EV.astore {j : Nat} {a b : Nat} (h : decode M.2.1 pc = .ok (.astore j, 2)) (hj : (j : Nat) < M.2.2.1) (hn : noL ls = true) (k : EV d M (pc + 2) (ls.set (j : Nat) (some (vR a b))) st σ Q) : EV d M pc ls (vR a b :: st) σ Q :=
  fun E p l e s m args below meth c H locs lr he hR hS hL => lv_astore he.1 he.2.1 h hL.has hj rfl (fun lr2 h2 => k E p l e s m args below meth c H locs lr2 he hR hS (LV.set (v := vR a b) hn h2))
theorem EV.iinc {j : Nat} {n : Int} {x v : Int32} (h : decode M.2.1 pc = .ok (.iinc j n, 3)) (hl : ls[j]? = some (some (vI x))) (hv : x + Int32.ofInt n = v) (hj : j < M.2.2.1) (hn : noL ls = true) (k : EV d M (pc + 3) (ls.set j (some (vI v))) st σ Q) : EV d M pc ls st σ Q := by
  intro E p l e s m args below meth c H locs lr he hR hS hL
  obtain ⟨i, hi⟩ := List.getElem?_of_mem (pairs_mem (E := E) hl)
  exact lv_iinc he.1 he.2.1 h hL.has hi hv hj rfl (fun lr2 h2 => k E p l e s m args below meth c H locs lr2 he hR hS (LV.set (v := vI v) hn h2))
theorem EV.ldc {idx : Nat} {v : Int32} (h : decode M.2.1 pc = .ok (.ldc idx, 2)) (hw : Cond.constant M.1.cls idx v ∈ WALL) (k : EV d M (pc + 2) ls (vI v :: st) σ Q) : EV d M pc ls st σ Q :=
  fun E p l e s m args below meth c H locs lr he hR hS hL => lv_ldc he.1 he.2.1 he.2.2.2.2.1 (he.2.2.2.2.2.1 _ hw) h (k E p l e s m args below meth c H locs lr he hR hS hL)
theorem EV.ldcw {idx : Nat} {v : Int32} (h : decode M.2.1 pc = .ok (.ldc_w idx, 3)) (hw : Cond.constant M.1.cls idx v ∈ WALL) (k : EV d M (pc + 3) ls (vI v :: st) σ Q) : EV d M pc ls st σ Q :=
  fun E p l e s m args below meth c H locs lr he hR hS hL => lv_ldcw he.1 he.2.1 he.2.2.2.2.1 (he.2.2.2.2.2.1 _ hw) h (k E p l e s m args below meth c H locs lr he hR hS hL)
theorem EV.ldc2 {idx : Nat} {v : Int64} (h : decode M.2.1 pc = .ok (.ldc2_w idx, 3)) (hw : Cond.constantLong M.1.cls idx v ∈ WALL) (k : EV d M (pc + 3) ls (vL v :: st) σ Q) : EV d M pc ls st σ Q :=
  fun E p l e s m args below meth c H locs lr he hR hS hL => lv_ldc2 he.1 he.2.1 he.2.2.2.2.1 (he.2.2.2.2.2.1 _ hw) h (k E p l e s m args below meth c H locs lr he hR hS hL)
theorem EV.tsIn {dflt lo hi : Int} {offs : Array Int} {len : Nat} {x : Int32} {off : Int} {tgt : Nat} (h : decode M.2.1 pc = .ok (.tableswitch dflt lo hi offs, len)) (h1 : ¬ x.toInt < lo) (h2 : ¬ hi < x.toInt) (ho : offs[(x.toInt - lo).toNat]? = some off) (ht : (pc : Int) + off = (tgt : Int)) (k : EV d M tgt ls st σ Q) : EV d M pc ls (vI x :: st) σ Q :=
  fun E p l e s m args below meth c H locs lr he hR hS hL => lv_tableIn he.1 he.2.1 h h1 h2 ho ht (k E p l e s m args below meth c H locs lr he hR hS hL)
theorem EV.tsOut {dflt lo hi : Int} {offs : Array Int} {len : Nat} {x : Int32} {tgt : Nat} (h : decode M.2.1 pc = .ok (.tableswitch dflt lo hi offs, len)) (h1 : x.toInt < lo ∨ hi < x.toInt) (ht : (pc : Int) + dflt = (tgt : Int)) (k : EV d M tgt ls st σ Q) : EV d M pc ls (vI x :: st) σ Q :=
  fun E p l e s m args below meth c H locs lr he hR hS hL => lv_tableOut he.1 he.2.1 h h1 ht (k E p l e s m args below meth c H locs lr he hR hS hL)
theorem EV.look {dflt : Int} {ps : Array (Int × Int)} {len : Nat} {x : Int32} {off : Int} {tgt : Nat} (h : decode M.2.1 pc = .ok (.lookupswitch dflt ps, len)) (hp : (ps.toList.zip (ps.toList.drop 1)).all (fun (a, next) => a.1 < next.1) = true) (ho : Op.lookupswitch.offset ps.toList dflt x.toInt = off) (ht : (pc : Int) + off = (tgt : Int)) (k : EV d M tgt ls st σ Q) : EV d M pc ls (vI x :: st) σ Q :=
  fun E p l e s m args below meth c H locs lr he hR hS hL => lv_lookup he.1 he.2.1 h hp ho ht (k E p l e s m args below meth c H locs lr he hR hS hL)
theorem EV.iret {x : Int32} (h : decode M.2.1 pc = .ok (.ireturn, 1)) (hr : M.2.2.2 = some .int) (q : Q (some (vI x)) σ) : EV d M pc ls [vI x] σ Q := by
  intro E p l e s m args below meth c H locs lr he hR hS hL
  obtain ⟨hx, hb, hml, hret, hown, hts, hlocks, hI, hK⟩ := he
  exact W.iret (v := x) hx hb (hret.trans hr) (fun t ht hW => ⟨⟨some (vI x), σ, rfl, q, by rw [ht]; exact hR, hK.go hW (by rw [ht]; exact hS.2.1)⟩, hS.F ht⟩) hS.2.2 h hlocks
theorem EV.zret {x : Int32} {ty : FieldType} (h : decode M.2.1 pc = .ok (.ireturn, 1)) (hr : M.2.2.2 = some ty) (hn : narrow ty (.int x) = .int x) (q : Q (some (vI x)) σ) : EV d M pc ls [vI x] σ Q := by
  intro E p l e s m args below meth c H locs lr he hR hS hL
  obtain ⟨hx, hb, hml, hret, hown, hts, hlocks, hI, hK⟩ := he
  exact W.zret (v := x) hx hb (hret.trans hr) hn (fun t ht hW => ⟨⟨some (vI x), σ, rfl, q, by rw [ht]; exact hR, hK.go hW (by rw [ht]; exact hS.2.1)⟩, hS.F ht⟩) hS.2.2 h hlocks
theorem EV.vret (h : decode M.2.1 pc = .ok (.return_, 1)) (hr : M.2.2.2 = none) (q : Q none σ) : EV d M pc ls [] σ Q := by
  intro E p l e s m args below meth c H locs lr he hR hS hL
  obtain ⟨hx, hb, hml, hret, hown, hts, hlocks, hI, hK⟩ := he
  exact W.vret hx hb (hret.trans hr) (fun t ht hW => ⟨⟨none, σ, rfl, q, by rw [ht]; exact hR, hK.go hW (by rw [ht]; exact hS.2.1)⟩, hS.F ht⟩) hS.2.2 h hlocks
end EVR
end
section
def CLok (ci : Nat) (r : vw_C) : Prop := vwCl[ci]? = some r ∧ (∀ w ∈ u_ws r.1 r.2.1 r.2.2, w ∈ WALL) ∧ (∃ ty0 : Nat → FieldType, ∀ k, k < r.2.2 → parseFieldDescriptor (r.2.1 k).2.2.1 = some (ty0 k)) ∧ (∀ a, a < r.2.2 → ∀ b, b < r.2.2 → a ≠ b → (r.2.1 a).2.1 ≠ (r.2.1 b).2.1)
def FL (own : String) (idx ci : Nat) (r : vw_C) (s : Nat) : Prop := s < r.2.2 ∧ Cond.fieldLink own idx (r.2.1 s).1 (r.2.1 s).2.1 (r.2.1 s).2.2.1 ∈ WALL
theorem Rep.setO {E : EE} {σ σ' : HS} {H H' : Heap} {k i ci s : Nat} {r : vw_C} {v : AV} (hR : Rep E σ H) (hI : Inj E) (hk : k < sh_NK) (hi : i < sh_cnt k) (ho : sh_obj k = some ci) (hr : vwCl[ci]? = some r) (hna : sh_arr k = none)
    (hOB : t_OB (E.2.2 k i) (E.1.1 ci) r.2.2 (E.1.2 ci) H' (updV (fun j => tv E (gv σ k i j)) s (tv E v))) (hsame : ∀ q : Nat, q ≠ E.2.2 k i → H'[q]? = H[q]?)
    (hg : ∀ k' i' s' : Nat, k' < sh_NK → i' < sh_cnt k' → gv σ' k' i' s' = if k' = k ∧ i' = i ∧ s' = s then v else gv σ k' i' s') : Rep E σ' H' := by
  intro k' i' hk' hi'
  by_cases e : k' = k ∧ i' = i
  · obtain ⟨rfl, rfl⟩ := e
    refine ⟨fun ci' r' h1 h2 => ?_, fun t n h => by rw [hna] at h; cases h⟩
    cases ho.symm.trans h1
    cases hr.symm.trans h2
    refine hOB.to (fun j hj => ?_)
    rw [hg k' i' j hk' hi']
    by_cases ej : j = s
    · simp [updV, ej]
    · simp [updV, ej]
  · have hne : E.2.2 k' i' ≠ E.2.2 k i := fun h => e (hI k' i' k i hk' hi' hk hi h)
    have hgg : ∀ s', gv σ' k' i' s' = gv σ k' i' s' := fun s' => by
      rw [hg k' i' s' hk' hi', if_neg (fun h => e ⟨h.1, h.2.1⟩)]
    obtain ⟨h1, h2⟩ := hR k' i' hk' hi'
    refine ⟨fun ci' r' a b => ((h1 ci' r' a b).kept (hsame _ hne)).to (fun j _ => by rw [hgg]), fun t n a => ?_⟩
    rw [hsame _ hne, h2 t n a]
    have : (fun s => tv E (gv σ' k' i' s)) = (fun s => tv E (gv σ k' i' s)) := funext fun s => by rw [hgg]
    rw [this]
theorem Rep.setA {E : EE} {σ σ' : HS} {H H' : Heap} {k i t n s : Nat} {v : AV} (hR : Rep E σ H) (hI : Inj E) (hk : k < sh_NK) (hi : i < sh_cnt k) (ha : sh_arr k = some (t, n)) (hno : sh_obj k = none)
    (hA : H'[E.2.2 k i]? = some (arrV (E.2.1 t) n (updV (fun j => tv E (gv σ k i j)) s (tv E v)))) (hsame : ∀ q : Nat, q ≠ E.2.2 k i → H'[q]? = H[q]?)
    (hg : ∀ k' i' s' : Nat, k' < sh_NK → i' < sh_cnt k' → gv σ' k' i' s' = if k' = k ∧ i' = i ∧ s' = s then v else gv σ k' i' s') : Rep E σ' H' := by
  intro k' i' hk' hi'
  by_cases e : k' = k ∧ i' = i
  · obtain ⟨rfl, rfl⟩ := e
    refine ⟨fun ci' r' h1 h2 => (by rw [hno] at h1; cases h1), fun t' n' h => ?_⟩
    cases ha.symm.trans h
    rw [hA]
    congr 2
    funext j
    rw [hg k' i' j hk' hi']
    by_cases ej : j = s
    · simp [updV, ej]
    · simp [updV, ej]
  · have hne : E.2.2 k' i' ≠ E.2.2 k i := fun h => e (hI k' i' k i hk' hi' hk hi h)
    have hgg : ∀ s', gv σ' k' i' s' = gv σ k' i' s' := fun s' => by
      rw [hg k' i' s' hk' hi', if_neg (fun h => e ⟨h.1, h.2.1⟩)]
    obtain ⟨h1, h2⟩ := hR k' i' hk' hi'
    refine ⟨fun ci' r' a b => ((h1 ci' r' a b).kept (hsame _ hne)).to (fun j _ => by rw [hgg]), fun t n a => ?_⟩
    rw [hsame _ hne, h2 t n a]
    have : (fun s => tv E (gv σ' k' i' s)) = (fun s => tv E (gv σ k' i' s)) := funext fun s => by rw [hgg]
    rw [this]
theorem gv_up {σ : HS} {k i s : Nat} {x : Int32} (h : intS k i s = true) (k' i' s' : Nat) : gv (up σ k i s x) k' i' s' = if k' = k ∧ i' = i ∧ s' = s then vI x else gv σ k' i' s' := by
  by_cases e : k' = k ∧ i' = i ∧ s' = s
  · obtain ⟨rfl, rfl, rfl⟩ := e
    rw [gv_int h]
    simp [up]
  · rw [if_neg e]
    unfold gv
    have : (up σ k i s x).1 k' i' s' = σ.1 k' i' s' := by simp [up, e]
    rw [this]
    rfl
theorem gv_upY {σ : HS} {k i s k1 j : Nat} (h1 : sh_rf k i s = none) (h2 : sh_dy k s = some k1) (hj : j < 2 ^ 31) (k' i' s' : Nat) : gv (up σ k i s (nI j)) k' i' s' = if k' = k ∧ i' = i ∧ s' = s then vR k1 j else gv σ k' i' s' := by
  by_cases e : k' = k ∧ i' = i ∧ s' = s
  · obtain ⟨rfl, rfl, rfl⟩ := e
    have : (up σ k' i' s' (nI j)).1 k' i' s' = nI j := by simp [up]
    simp [gv, h1, h2, this, nI_clamp hj]
  · rw [if_neg e]
    unfold gv
    have : (up σ k i s (nI j)).1 k' i' s' = σ.1 k' i' s' := by simp [up, e]
    rw [this]
    rfl
theorem vp_lt {x : Int32} {n : Nat} (h : vp_in x n) : x.toNatClampNeg < n := by
  unfold vp_in at h
  omega
section EVH
variable {d : Nat} {M : MI} {pc : Nat} {ls : List (Option AV)} {st : List AV} {σ : HS} {Q : Option AV → HS → Prop}
theorem EV.getf {idx ci k i s : Nat} {r : vw_C} {v : AV} (h : decode M.2.1 pc = .ok (.getfield idx, 3)) (hc : CLok ci r) (hf : FL M.1.cls idx ci r s) (hk : k < sh_NK) (ho : sh_obj k = some ci) (hi : i < sh_cnt k) (hv : gv σ k i s = v) (kk : EV d M (pc + 3) ls (v :: st) σ Q) : EV d M pc ls (vR k i :: st) σ Q := by
  intro E p l e s0 m args below meth c H locs lr he hR hS hL
  obtain ⟨hr, hin, -, -⟩ := hc
  obtain ⟨hs, hlink⟩ := hf
  obtain ⟨cell, q1, q2, q3, q4⟩ := (hR k i hk hi).1 ci r ho hr
  have hw := kk E p l e s0 m args below meth c H locs lr he hR hS hL
  obtain ⟨hx, hb, hml, hret, hown, hts, hlocks, hI, hK⟩ := he
  obtain ⟨hS', hfc, kC, hkC, hkind⟩ := hK.1 ci r hr
  obtain ⟨cf, kf, fi, f, hi', hsl⟩ := hS' s hs
  refine W.getf hx hb hown (hts _ hlink) hi' (u_facts hfc hkC (u_lays hts hin hs) hi').1 q1 (by rw [q3]; exact fun h => by cases h) (v := tv E v) ?_ rfl rfl h hw
  rw [hsl, q4 s hs]
  exact congrArg (fun z => some (tv E z)) hv
theorem EV.putG {idx ci k i s : Nat} {r : vw_C} {ty : FieldType} {v : AV} {σ' : HS} (h : decode M.2.1 pc = .ok (.putfield idx, 3)) (hc : CLok ci r) (hf : FL M.1.cls idx ci r s) (hk : k < sh_NK) (ho : sh_obj k = some ci) (hna : sh_arr k = none) (hi : i < sh_cnt k)
    (hfin : (r.2.1 s).2.2.2 = false) (hty : parseFieldDescriptor (r.2.1 s).2.2.1 = some ty) (hn : ∀ E, narrow ty (tv E v) = tv E v ∧ fits ty (tv E v) = true)
    (hg : ∀ k' i' s' : Nat, k' < sh_NK → i' < sh_cnt k' → gv σ' k' i' s' = if k' = k ∧ i' = i ∧ s' = s then v else gv σ k' i' s')
    (kk : EV d M (pc + 3) ls st σ' Q) : EV d M pc ls (v :: vR k i :: st) σ Q := by
  intro E p l e s0 m args below meth c H locs lr he hR hS hL
  have he0 := he
  obtain ⟨hr, hin, ⟨ty0, hty0⟩, hnm⟩ := hc
  obtain ⟨hs, hlink⟩ := hf
  obtain ⟨cell, q1, q2, q3, q4⟩ := (hR k i hk hi).1 ci r ho hr
  obtain ⟨hx, hb, hml, hret, hown, hts, hlocks, hI, hK⟩ := he
  obtain ⟨hS', hfc, kC, hkC, hkind⟩ := hK.1 ci r hr
  have hap : ∀ x y, x < r.2.2 → y < r.2.2 → x ≠ y → (E.1.2 ci) x ≠ (E.1.2 ci) y := by
    intro x y hx hy hne
    obtain ⟨_, _, _, fa, hia, ea⟩ := hS' x hx
    obtain ⟨_, _, _, fb, hib, eb⟩ := hS' y hy
    rw [← ea, ← eb]
    refine u_apart (u_lays hts hin hx) (u_lays hts hin hy) hia hib ?_
    rw [(State.fieldFound?_type hia (hty0 x hx)).1, (State.fieldFound?_type hib (hty0 y hy)).1]
    exact hnm x hx y hy hne
  obtain ⟨cf, kf, fi, f, hi', hsl⟩ := hS' s hs
  have hlay := hts _ (hin _ (u_in_lay hs))
  unfold u_lay at hlay
  rw [if_neg (by rw [hfin]; decide)] at hlay
  have hst := (u_facts hfc hkC (u_lays hts hin hs) hi').1
  have h6 := u_store hfc hkC hkind hlay hi' hty (hn E).1 (hn E).2
  refine W.putK hx hb (f := f) ⟨hown, hts _ hlink, ⟨_, _, _, hi'⟩, hst⟩ (by rw [q2]; exact h6) q1 q3 (by rw [hsl]; exact k2_hasslot (q4 s hs)) rfl rfl h fun H' e1 e2 e3 => ?_
  rw [hsl] at e1 ⊢
  have hR' : Rep E σ' H' := hR.setO hI hk hi ho hr hna (s := s) (v := v) ⟨_, e1, q2, q3, t_set q4 hap hs (tv E v)⟩ e3 hg
  exact kk E p l e s0 m args below meth c H' _ lr he0 hR' (hS.put e2 e3 ⟨k, i, hk, hi, rfl⟩) hL
theorem EV.putI {idx ci k i s : Nat} {r : vw_C} {ty : FieldType} {x : Int32} (h : decode M.2.1 pc = .ok (.putfield idx, 3)) (hc : CLok ci r) (hf : FL M.1.cls idx ci r s) (hk : k < sh_NK) (ho : sh_obj k = some ci) (hna : sh_arr k = none) (hi : i < sh_cnt k)
    (hfin : (r.2.1 s).2.2.2 = false) (hty : parseFieldDescriptor (r.2.1 s).2.2.1 = some ty) (hn : narrow ty (.int x) = .int x ∧ fits ty (.int x) = true) (hz : intS k i s = true)
    (kk : EV d M (pc + 3) ls st (up σ k i s x) Q) : EV d M pc ls (vI x :: vR k i :: st) σ Q :=
  EV.putG h hc hf hk ho hna hi hfin hty (fun _ => hn) (fun k' i' s' _ _ => gv_up hz k' i' s') kk
theorem EV.putY {idx ci k i s k1 j : Nat} {r : vw_C} {ty : FieldType} (h : decode M.2.1 pc = .ok (.putfield idx, 3)) (hc : CLok ci r) (hf : FL M.1.cls idx ci r s) (hk : k < sh_NK) (ho : sh_obj k = some ci) (hna : sh_arr k = none) (hi : i < sh_cnt k)
    (hfin : (r.2.1 s).2.2.2 = false) (hty : parseFieldDescriptor (r.2.1 s).2.2.1 = some ty) (hn : ∀ a : Nat, narrow ty (.ref a) = .ref a ∧ fits ty (.ref a) = true) (h1 : sh_rf k i s = none) (h2 : sh_dy k s = some k1) (hj : j < 2 ^ 31)
    (kk : EV d M (pc + 3) ls st (up σ k i s (nI j)) Q) : EV d M pc ls (vR k1 j :: vR k i :: st) σ Q :=
  EV.putG h hc hf hk ho hna hi hfin hty (fun E => hn _) (fun k' i' s' _ _ => gv_upY h1 h2 hj k' i' s') kk
theorem EV.putL {idx ci k i s : Nat} {r : vw_C} {ty : FieldType} {x : Int64} (h : decode M.2.1 pc = .ok (.putfield idx, 3)) (hc : CLok ci r) (hf : FL M.1.cls idx ci r s) (hk : k < sh_NK) (ho : sh_obj k = some ci) (hna : sh_arr k = none) (hi : i < sh_cnt k)
    (hfin : (r.2.1 s).2.2.2 = false) (hty : parseFieldDescriptor (r.2.1 s).2.2.1 = some ty) (hn : narrow ty (.long x) = .long x ∧ fits ty (.long x) = true) (hg : ∀ k' i' s' : Nat, k' < sh_NK → i' < sh_cnt k' → gv (σ.1, x) k' i' s' = if k' = k ∧ i' = i ∧ s' = s then vL x else gv σ k' i' s')
    (kk : EV d M (pc + 3) ls st (σ.1, x) Q) : EV d M pc ls (vL x :: vR k i :: st) σ Q :=
  EV.putG h hc hf hk ho hna hi hfin hty (fun _ => hn) hg kk
theorem arr_of {E : EE} {σ : HS} {H : Heap} {s0 : State} {k i t n : Nat} (hR : Rep E σ H) (hK : KK E s0 s0.heap) (hk : k < sh_NK) (hi : i < sh_cnt k) (ha : sh_arr k = some (t, n)) (ht : t < 5) :
    H[E.2.2 k i]? = some (arrV (E.2.1 t) n (fun s => tv E (gv σ k i s))) ∧ s0.isArrayOf (arrV (E.2.1 t) n (fun s => tv E (gv σ k i s))) (sh_el t) ∧ (arrV (E.2.1 t) n (fun s => tv E (gv σ k i s))).vm ≠ .unknown ∧ (arrV (E.2.1 t) n (fun s => tv E (gv σ k i s))).slots.size = n := by
  refine ⟨(hR k i hk hi).2 t n ha, hK.2.1 t ht _ _, (fun h => by cases h), arrV_size _ _ _⟩
theorem EV.iald {k i n : Nat} {x : Int32} {v : AV} (h : decode M.2.1 pc = .ok (.iaload, 1)) (hk : k < sh_NK) (ha : sh_arr k = some (0, n)) (hi : i < sh_cnt k) (hin : vp_in x n) (hv : gv σ k i x.toNatClampNeg = v) (kk : EV d M (pc + 1) ls (v :: st) σ Q) : EV d M pc ls (vI x :: vR k i :: st) σ Q := by
  intro E p l e s0 m args below meth c H locs lr he hR hS hL
  obtain ⟨a1, a2, a3, a4⟩ := arr_of hR he.2.2.2.2.2.2.2.2 hk hi ha (by omega)
  exact W.iald he.1 he.2.1 a1 a2 a3 (by rw [a4]; exact hin) (by rw [arrV_read _ _ (vp_lt hin), hv]) rfl rfl h (kk E p l e s0 m args below meth c H locs lr he hR hS hL)
theorem EV.bald {k i n : Nat} {x : Int32} {v : AV} (h : decode M.2.1 pc = .ok (.baload, 1)) (hk : k < sh_NK) (ha : sh_arr k = some (1, n)) (hi : i < sh_cnt k) (hin : vp_in x n) (hv : gv σ k i x.toNatClampNeg = v) (kk : EV d M (pc + 1) ls (v :: st) σ Q) : EV d M pc ls (vI x :: vR k i :: st) σ Q := by
  intro E p l e s0 m args below meth c H locs lr he hR hS hL
  obtain ⟨a1, a2, a3, a4⟩ := arr_of hR he.2.2.2.2.2.2.2.2 hk hi ha (by omega)
  exact W.bald he.1 he.2.1 a1 a2 a3 (by rw [a4]; exact hin) (by rw [arrV_read _ _ (vp_lt hin), hv]) rfl rfl h (kk E p l e s0 m args below meth c H locs lr he hR hS hL)
theorem EV.sald {k i n : Nat} {x : Int32} {v : AV} (h : decode M.2.1 pc = .ok (.saload, 1)) (hk : k < sh_NK) (ha : sh_arr k = some (2, n)) (hi : i < sh_cnt k) (hin : vp_in x n) (hv : gv σ k i x.toNatClampNeg = v) (kk : EV d M (pc + 1) ls (v :: st) σ Q) : EV d M pc ls (vI x :: vR k i :: st) σ Q := by
  intro E p l e s0 m args below meth c H locs lr he hR hS hL
  obtain ⟨a1, a2, a3, a4⟩ := arr_of hR he.2.2.2.2.2.2.2.2 hk hi ha (by omega)
  exact W.sald he.1 he.2.1 a1 a2 a3 (by rw [a4]; exact hin) (by rw [arrV_read _ _ (vp_lt hin), hv]) rfl rfl h (kk E p l e s0 m args below meth c H locs lr he hR hS hL)
theorem EV.aald {k i t n : Nat} {x : Int32} {v : AV} (h : decode M.2.1 pc = .ok (.aaload, 1)) (hk : k < sh_NK) (ha : sh_arr k = some (t, n)) (ht : t < 5) (hrt : (sh_el t).isReference = true) (hi : i < sh_cnt k) (hin : vp_in x n) (hv : gv σ k i x.toNatClampNeg = v) (kk : EV d M (pc + 1) ls (v :: st) σ Q) : EV d M pc ls (vI x :: vR k i :: st) σ Q := by
  intro E p l e s0 m args below meth c H locs lr he hR hS hL
  obtain ⟨a1, a2, a3, a4⟩ := arr_of hR he.2.2.2.2.2.2.2.2 hk hi ha ht
  exact W.aald he.1 he.2.1 a1 a2 hrt a3 (by rw [a4]; exact hin) (by rw [arrV_read _ _ (vp_lt hin), hv]) rfl rfl h (kk E p l e s0 m args below meth c H locs lr he hR hS hL)
theorem EV.alen {k i t n : Nat} {v : Int32} (h : decode M.2.1 pc = .ok (.arraylength, 1)) (hk : k < sh_NK) (ha : sh_arr k = some (t, n)) (ht : t < 5) (hi : i < sh_cnt k) (hv : n.toInt32 = v) (kk : EV d M (pc + 1) ls (vI v :: st) σ Q) : EV d M pc ls (vR k i :: st) σ Q := by
  intro E p l e s0 m args below meth c H locs lr he hR hS hL
  obtain ⟨a1, a2, a3, a4⟩ := arr_of hR he.2.2.2.2.2.2.2.2 hk hi ha ht
  exact W.alen he.1 he.2.1 a1 a2 (by rw [a4]; exact hv) rfl rfl h (kk E p l e s0 m args below meth c H locs lr he hR hS hL)
theorem EV.iast {k i n : Nat} {x v : Int32} (h : decode M.2.1 pc = .ok (.iastore, 1)) (hk : k < sh_NK) (ha : sh_arr k = some (0, n)) (hno : sh_obj k = none) (hi : i < sh_cnt k) (hin : vp_in x n) (hz : intS k i x.toNatClampNeg = true) (kk : EV d M (pc + 1) ls st (up σ k i x.toNatClampNeg v) Q) : EV d M pc ls (vI v :: vI x :: vR k i :: st) σ Q := by
  intro E p l e s0 m args below meth c H locs lr he hR hS hL
  obtain ⟨a1, a2, a3, a4⟩ := arr_of hR he.2.2.2.2.2.2.2.2 hk hi ha (by omega)
  refine W.iast he.1 he.2.1 a1 a2 a3 (by rw [a4]; exact hin) rfl rfl h (fun H' e1 e2 e3 => ?_)
  rw [arrV_store] at e1
  have hR' : Rep E (up σ k i x.toNatClampNeg v) H' := hR.setA he.2.2.2.2.2.2.2.1 hk hi ha hno (v := vI v) e1 e3 (fun k' i' s' _ _ => gv_up hz k' i' s')
  exact kk E p l e s0 m args below meth c H' _ lr he hR' (hS.put e2 e3 ⟨k, i, hk, hi, rfl⟩) hL
theorem EV.bast {k i n : Nat} {x v : Int32} (h : decode M.2.1 pc = .ok (.bastore, 1)) (hk : k < sh_NK) (ha : sh_arr k = some (1, n)) (hno : sh_obj k = none) (hi : i < sh_cnt k) (hin : vp_in x n) (hz : intS k i x.toNatClampNeg = true) (kk : EV d M (pc + 1) ls st (up σ k i x.toNatClampNeg v.toInt8.toInt32) Q) : EV d M pc ls (vI v :: vI x :: vR k i :: st) σ Q := by
  intro E p l e s0 m args below meth c H locs lr he hR hS hL
  obtain ⟨a1, a2, a3, a4⟩ := arr_of hR he.2.2.2.2.2.2.2.2 hk hi ha (by omega)
  refine W.bast he.1 he.2.1 a1 a2 a3 (by rw [a4]; exact hin) rfl rfl h (fun H' e1 e2 e3 => ?_)
  rw [arrV_store] at e1
  have hR' : Rep E (up σ k i x.toNatClampNeg v.toInt8.toInt32) H' := hR.setA he.2.2.2.2.2.2.2.1 hk hi ha hno (v := vI v.toInt8.toInt32) e1 e3 (fun k' i' s' _ _ => gv_up hz k' i' s')
  exact kk E p l e s0 m args below meth c H' _ lr he hR' (hS.put e2 e3 ⟨k, i, hk, hi, rfl⟩) hL
theorem EV.sast {k i n : Nat} {x v : Int32} (h : decode M.2.1 pc = .ok (.sastore, 1)) (hk : k < sh_NK) (ha : sh_arr k = some (2, n)) (hno : sh_obj k = none) (hi : i < sh_cnt k) (hin : vp_in x n) (hz : intS k i x.toNatClampNeg = true) (kk : EV d M (pc + 1) ls st (up σ k i x.toNatClampNeg v.toInt16.toInt32) Q) : EV d M pc ls (vI v :: vI x :: vR k i :: st) σ Q := by
  intro E p l e s0 m args below meth c H locs lr he hR hS hL
  obtain ⟨a1, a2, a3, a4⟩ := arr_of hR he.2.2.2.2.2.2.2.2 hk hi ha (by omega)
  refine W.sast he.1 he.2.1 a1 a2 a3 (by rw [a4]; exact hin) rfl rfl h (fun H' e1 e2 e3 => ?_)
  rw [arrV_store] at e1
  have hR' : Rep E (up σ k i x.toNatClampNeg v.toInt16.toInt32) H' := hR.setA he.2.2.2.2.2.2.2.1 hk hi ha hno (v := vI v.toInt16.toInt32) e1 e3 (fun k' i' s' _ _ => gv_up hz k' i' s')
  exact kk E p l e s0 m args below meth c H' _ lr he hR' (hS.put e2 e3 ⟨k, i, hk, hi, rfl⟩) hL
end EVH
/-! calls -/
def ML0 (M' : MI) (n : Nat) : Prop := Cond.code M'.1 M'.2.1 M'.2.2.1 M'.2.2.2 ∈ WALL ∧ Cond.initialized M'.1.cls ∈ WALL ∧ (M'.1.cls ≠ "java/lang/invoke/MethodHandle" ∧ M'.1.cls ≠ "java/lang/invoke/VarHandle" ∧ (parseMethodDescriptor M'.1.desc).map (fun d => d.parameters.length) = some n) ∧ plainName M'.1.cls = true ∧ M'.2.2.1 ≤ 40
def MLV (own : String) (idx : Nat) (M' : MI) (n : Nat) : Prop := ML0 M' n ∧ Cond.methodLink own idx M'.1 ∈ WALL ∧ Cond.instanceMethod M'.1 ∈ WALL ∧ Cond.selects M'.1.cls M'.1 M'.1 ∈ WALL
def MLS (own : String) (idx : Nat) (M' : MI) (n : Nat) : Prop := ML0 M' n ∧ Cond.static M'.1 ∈ WALL ∧ (Cond.methodLink own idx M'.1 ∈ WALL ∨ ∃ host, (own, idx, M'.1, host) ∈ NALL)
section CAL
variable {p : Program} {l : Launch} {e : Env} {R : Room} {s : State} {m : MethodId} {args : Array Value} {below : List Frame} {meth : Method} {c : Code} {H : Heap} {locs : List Loc} {cells slots : Nat} {Z : State → Prop} {E : EE} {lr : Array Slot} {pc : Nat}
theorem run_go {Q : Option AV → HS → Prop} {stk rest : List Value} {a : Array Value} (hr : va_Run p l e R s m args below meth c H locs cells slots 0 0 (F0 m pc lr stk) rest (QC E Q a) (Reg E)) {A0 : Nat → Prop} {H0 : Heap} (hS : va_S A0 H0 H locs) (hA : ∀ q, Reg E q → A0 q)
    (kk : ∀ (rv : Option AV) (σ : HS) (H1 : Heap) (locs1 : List Loc), Q rv σ → Rep E σ H1 → va_S A0 H0 H1 locs1 → (∀ q : Nat, q < H.size → ¬ Reg E q → H1[q]? = H[q]?) → H.size ≤ H1.size → W p l e R s m args below meth c H1 locs1 cells slots Z (F0 m (pc + 3) lr (rv.toList.map (tv E) ++ rest))) : W p l e R s m args below meth c H locs cells slots Z (F0 m pc lr stk) := by
  intro T hT X
  obtain ⟨v, st₀, t, T', L, h0, X', hL, e1, e2, ⟨⟨rv, σ, hv, hq, hRep, hKK⟩, hz, hk⟩, st⟩ := hr T hT X
  cases hv
  rw [h0] at hz hk
  obtain ⟨t2, a1, b1⟩ := kk rv σ T'.heap (locs ++ L) hq (by rw [e1]; exact hRep)
    ⟨Nat.le_trans hS.1 (by rw [e1]; exact hz), fun q h1 h2 => by rw [e1, hk q (Nat.lt_of_lt_of_le h1 hS.1) (fun z => h2 (hA q z))]; exact hS.2.1 q h1 h2, fun q hq => by
      rcases List.mem_append.mp hq with h | h
      · exact hS.2.2 q h
      · exact hA _ (hL q h)⟩ (fun q h1 h2 => by rw [e1]; exact hk q h1 h2) (by rw [e1]; exact hz) T' rfl X'
  refine ⟨t2, st t2 ?_, b1⟩
  have : (rv.map (tv E)).toList = rv.toList.map (tv E) := by cases rv <;> rfl
  rw [this]
  exact a1
theorem blind {E : EE} {σ : HS} {vs : List Value} : FrameBlind (va_Pc vs (fun U => Rep E σ U.heap ∧ KK E U U.heap)) := fun a U g mk h => ⟨h.1, h.2.1, h.2.2.same rfl⟩
theorem ML0.base {M' : MI} {n d : Nat} (h : ML0 M' n) (hd : 1 ≤ d) (hts : ∀ w ∈ WALL, w.before args s = true) (hRf : d ≤ R.frames) (hRl : d * 64 ≤ R.locals) :
    ((rmD (d - 1)).cells = 0 ∧ (rmD (d - 1)).slots = 0 ∧ (rmD (d - 1)).frames + 1 ≤ R.frames ∧ 8 + (M'.2.2.1 + 11) + (rmD (d - 1)).locals ≤ R.locals ∧ (∀ w ∈ Cond.code M'.1 M'.2.1 M'.2.2.1 M'.2.2.2 :: WALL, ∀ (a' : Array Value) (U : State), s.WarmedH U.vm → w.before a' U = true) ∧ Cond.code M'.1 M'.2.1 M'.2.2.1 M'.2.2.2 ∈ Cond.code M'.1 M'.2.1 M'.2.2.1 M'.2.2.2 :: WALL) ∧
    (Cond.code M'.1 M'.2.1 M'.2.2.1 M'.2.2.2).before args s = true ∧ (Cond.initialized M'.1.cls).before args s = true ∧ (M'.1.cls ≠ "java/lang/invoke/MethodHandle" ∧ M'.1.cls ≠ "java/lang/invoke/VarHandle") ∧ (∀ sig, parseMethodDescriptor M'.1.desc = some sig → n = sig.parameters.length) := by
  obtain ⟨h1, h2, ⟨h3, h4, h5⟩, h6, h7⟩ := h
  refine ⟨⟨rfl, rfl, ?_, ?_, pay_in hts (fun w hw => ?_), List.mem_cons_self⟩, hts _ h1, hts _ h2, ⟨h3, h4⟩, fun sig hs => ?_⟩
  · show d - 1 + 1 ≤ _; omega
  · show 8 + (M'.2.2.1 + 11) + (d - 1) * 64 ≤ _; omega
  · rcases List.mem_cons.mp hw with rfl | hw
    · exact ⟨h1, WALL_good h1⟩
    · exact ⟨hw, WALL_good hw⟩
  · rw [hs] at h5
    exact (Option.some.inj h5).symm
/-- a call of an instance method, at the machine's level: any caller -/
theorem W_callV {cc : ByteArray} {nL d idx n k i ci : Nat} {own : String} {M' : MI} {As : List AV} {σ : HS} {Q : Option AV → HS → Prop} {r : vw_C} {rest : List Value} (hx : p.tables.exec = Jvm.exec) (hb : c.code = cc) (hml : c.maxLocals = nL) (hown : s.vm.findClass own = some m.cls) (hts : ∀ w ∈ WALL, w.before args s = true) (hI : Inj E) (hK : KK E s H) (hR : Rep E σ H)
    (hd : 1 ≤ d) (hRf : d ≤ R.frames) (hRl : d * 64 ≤ R.locals) (hm : MLV own idx M' n) (hn : As.length = n) (hln : (entS (vR k i :: As)).length ≤ M'.2.2.1) (hk : k < sh_NK) (hi : i < sh_cnt k) (ho : sh_obj k = some ci) (hr : vwCl[ci]? = some r) (hcl : r.1 = M'.1.cls) (hMT : MT (d - 1) M' (vR k i :: As) σ Q)
    (hsz : lr.size = nL) (hrest : (rest.map fun v => v.category).sum ≤ 8) (hdg : decode cc pc = .ok (.invokevirtual idx, 3)) (hc : cells ≤ R.cells) (hs : slots ≤ R.slots) {A0 : Nat → Prop} {H0 : Heap} (hS : va_S A0 H0 H locs) (hA : ∀ q, Reg E q → A0 q)
    (kk : ∀ (rv : Option AV) (σ : HS) (H1 : Heap) (locs1 : List Loc), Q rv σ → Rep E σ H1 → va_S A0 H0 H1 locs1 → (∀ q : Nat, q < H.size → ¬ Reg E q → H1[q]? = H[q]?) → H.size ≤ H1.size → W p l e R s m args below meth c H1 locs1 cells slots Z (F0 m (pc + 3) lr (rv.toList.map (tv E) ++ rest))) :
    W p l e R s m args below meth c H locs cells slots Z (F0 m pc lr ((As.map (tv E)).reverse ++ .ref (E.2.2 k i) :: rest)) := by
  obtain ⟨h0, hl, hin, hse⟩ := hm
  obtain ⟨b1, b2, b3, b4, b5⟩ := h0.base (R := R) hd hts hRf hRl
  obtain ⟨cell, q1, q2, q3, q4⟩ := (hR k i hk hi).1 ci r ho hr
  have hfc : s.vm.findClass M'.1.cls = some cell.cls := by rw [q2, ← hcl]; exact (hK.1 ci r hr).2.1
  refine run_go (Q := Q) (rest := rest) (va_runV (Ts := WALL) (C := M'.1.cls) (bytes := M'.2.1) (maxL := M'.2.2.1) (ret := M'.2.2.2) ⟨hx, hb, hml, hown, hts⟩ (hMT.met h0.2.2.2.1 hln E hI l) ⟨⟨b1.1, b1.2.1, b1.2.2.1, b1.2.2.2.1, b1.2.2.2.2.1, b1.2.2.2.2.2, b2, b3, b4, b5, hts _ hl⟩, hts _ hin, hts _ hse⟩
    ⟨blind, ⟨cell, q1, by rw [q3]; rfl, hfc⟩, fun U hU hW => ⟨rfl, by rw [hU]; exact hR, by rw [hU]; exact hK.go hW (fun _ _ _ => rfl)⟩⟩ rfl (by rw [List.length_map]; exact hn) hsz rfl (lv_room hrest) hdg ⟨hc, hs⟩) hS hA kk
theorem W_callS {cc : ByteArray} {nL d idx n : Nat} {own : String} {M' : MI} {As : List AV} {σ : HS} {Q : Option AV → HS → Prop} {rest : List Value} (hx : p.tables.exec = Jvm.exec) (hb : c.code = cc) (hml : c.maxLocals = nL) (hown : s.vm.findClass own = some m.cls) (hts : ∀ w ∈ WALL, w.before args s = true) (hI : Inj E) (hK : KK E s H) (hR : Rep E σ H)
    (hd : 1 ≤ d) (hRf : d ≤ R.frames) (hRl : d * 64 ≤ R.locals) (hm : MLS own idx M' n) (hn : As.length = n) (hln : (entS As).length ≤ M'.2.2.1) (hMT : MT (d - 1) M' As σ Q)
    (hsz : lr.size = nL) (hrest : (rest.map fun v => v.category).sum ≤ 8) (hdg : decode cc pc = .ok (.invokestatic idx, 3)) (hc : cells ≤ R.cells) (hs : slots ≤ R.slots) {A0 : Nat → Prop} {H0 : Heap} (hS : va_S A0 H0 H locs) (hA : ∀ q, Reg E q → A0 q)
    (kk : ∀ (rv : Option AV) (σ : HS) (H1 : Heap) (locs1 : List Loc), Q rv σ → Rep E σ H1 → va_S A0 H0 H1 locs1 → (∀ q : Nat, q < H.size → ¬ Reg E q → H1[q]? = H[q]?) → H.size ≤ H1.size → W p l e R s m args below meth c H1 locs1 cells slots Z (F0 m (pc + 3) lr (rv.toList.map (tv E) ++ rest))) :
    W p l e R s m args below meth c H locs cells slots Z (F0 m pc lr ((As.map (tv E)).reverse ++ rest)) := by
  obtain ⟨h0, hst, hl⟩ := hm
  obtain ⟨b1, b2, b3, b4, b5⟩ := h0.base (R := R) hd hts hRf hRl
  have hpre : PreS s H (va_Pc (As.map (tv E)) (fun U => Rep E σ U.heap ∧ KK E U U.heap)) (As.map (tv E)) := ⟨blind, fun U hU hW => ⟨rfl, by rw [hU]; exact hR, by rw [hU]; exact hK.go hW (fun _ _ _ => rfl)⟩⟩
  rcases hl with hl | ⟨host, hl⟩
  · exact run_go (Q := Q) (rest := rest) (va_runS (Ts := WALL) (bytes := M'.2.1) (maxL := M'.2.2.1) (ret := M'.2.2.2) ⟨hx, hb, hml, hown, hts⟩ (hMT.met h0.2.2.2.1 hln E hI l) ⟨⟨b1.1, b1.2.1, b1.2.2.1, b1.2.2.2.1, b1.2.2.2.2.1, b1.2.2.2.2.2, b2, b3, b4, b5, hts _ hl⟩, hts _ hst⟩ hpre rfl (by rw [List.length_map]; exact hn) hsz rfl (lv_room hrest) hdg ⟨hc, hs⟩) hS hA kk
  · have hnw := hK.2.2.1 _ hl
    exact run_go (Q := Q) (rest := rest) (va_runSN (Ts := WALL) (bytes := M'.2.1) (maxL := M'.2.2.1) (ret := M'.2.2.2) (host := host) ⟨hx, hb, hml, hown, hts⟩ (hMT.met h0.2.2.2.1 hln E hI l) ⟨⟨b1, b2, b3, b4, b5, va_Nw.use rfl hnw⟩, hts _ hst, trivial⟩ hpre rfl (by rw [List.length_map]; exact hn) hsz rfl (lv_room hrest) hdg ⟨hc, hs⟩) hS hA kk
end CAL
section EVC
variable {d : Nat} {M : MI} {pc : Nat} {ls : List (Option AV)} {st : List AV} {σ : HS} {Q : Option AV → HS → Prop}
theorem EV.callV {idx n k i ci : Nat} {r : vw_C} {M' : MI} {As st' : List AV} {Q' : Option AV → HS → Prop} (h : decode M.2.1 pc = .ok (.invokevirtual idx, 3)) (hd : 1 ≤ d) (hm : MLV M.1.cls idx M' n) (hn : As.length = n) (hln : (entS (vR k i :: As)).length ≤ M'.2.2.1) (hk : k < sh_NK) (hi : i < sh_cnt k) (ho : sh_obj k = some ci) (hr : vwCl[ci]? = some r) (hcl : r.1 = M'.1.cls) (hrest : (st.map catA).sum ≤ 8) (hst : st' = As.reverse ++ vR k i :: st)
    (hMT : MT (d - 1) M' (vR k i :: As) σ Q') (kk : ∀ (rv : Option AV) (σ' : HS), Q' rv σ' → EV d M (pc + 3) ls (rv.toList ++ st) σ' Q) : EV d M pc ls st' σ Q := by
  subst hst
  intro E p l e s m args below meth c H locs lr he hR hS hL
  have he0 := he
  obtain ⟨hx, hb, hml, hret, hown, hts, hlocks, hI, hK⟩ := he
  have hKH : KK E s H := hK.go (State.WarmedH.refl s) hS.2.1
  have e1 : (As.reverse ++ vR k i :: st).map (tv E) = (As.map (tv E)).reverse ++ .ref (E.2.2 k i) :: st.map (tv E) := by rw [List.map_append, List.map_reverse]; rfl
  rw [e1]
  refine W_callV hx hb hml hown hts hI hKH hR hd (Nat.le_refl _) (Nat.le_refl _) hm hn hln hk hi ho hr hcl hMT hL.1 (by rw [tv_cats]; exact hrest) h (Nat.le_refl _) (Nat.le_refl _) hS (fun _ h => h) (fun rv σ' H1 locs1 hq hR1 hS1 _ _ => ?_)
  have := kk rv σ' hq E p l e s m args below meth c H1 locs1 lr he0 hR1 hS1 hL
  rwa [List.map_append] at this
theorem EV.callS {idx n : Nat} {M' : MI} {As st' : List AV} {Q' : Option AV → HS → Prop} (h : decode M.2.1 pc = .ok (.invokestatic idx, 3)) (hd : 1 ≤ d) (hm : MLS M.1.cls idx M' n) (hn : As.length = n) (hln : (entS As).length ≤ M'.2.2.1) (hrest : (st.map catA).sum ≤ 8) (hst : st' = As.reverse ++ st)
    (hMT : MT (d - 1) M' As σ Q') (kk : ∀ (rv : Option AV) (σ' : HS), Q' rv σ' → EV d M (pc + 3) ls (rv.toList ++ st) σ' Q) : EV d M pc ls st' σ Q := by
  subst hst
  intro E p l e s m args below meth c H locs lr he hR hS hL
  have he0 := he
  obtain ⟨hx, hb, hml, hret, hown, hts, hlocks, hI, hK⟩ := he
  have hKH : KK E s H := hK.go (State.WarmedH.refl s) hS.2.1
  have e1 : (As.reverse ++ st).map (tv E) = (As.map (tv E)).reverse ++ st.map (tv E) := by rw [List.map_append, List.map_reverse]
  rw [e1]
  refine W_callS hx hb hml hown hts hI hKH hR hd (Nat.le_refl _) (Nat.le_refl _) hm hn hln hMT hL.1 (by rw [tv_cats]; exact hrest) h (Nat.le_refl _) (Nat.le_refl _) hS (fun _ h => h) (fun rv σ' H1 locs1 hq hR1 hS1 _ _ => ?_)
  have := kk rv σ' hq E p l e s m args below meth c H1 locs1 lr he0 hR1 hS1 hL
  rwa [List.map_append] at this
end EVC
end
