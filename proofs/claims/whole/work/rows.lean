section
-- ===== PART A: goes FIRST, ahead of the names: the tables' words, and 'selects' of the private methods out of them =====
/-- a private method of a class that the tables say can be made, by its rows of tables_1 -/
def lw_okq (q : MethodName × Nat) : Prop := (q.1.cls ≠ "java/lang/invoke/MethodHandle" ∧ q.1.cls ≠ "java/lang/invoke/VarHandle") ∧ Cond.instantiable q.1.cls q.2 ∈ tables_1 ∧ Cond.privateMethod q.1 ∈ tables_1 ∧ Cond.instanceMethod q.1 ∈ tables_1
theorem lw_p0 : lw_okq (⟨"StoreRealm", "write", "(I)V"⟩, 9) := ⟨⟨by decide +kernel, by decide +kernel⟩, List.mem_of_getElem? (i := 20) (by decide +kernel), List.mem_of_getElem? (i := 479) (by decide +kernel), List.mem_of_getElem? (i := 480) (by decide +kernel)⟩
theorem lw_p1 : lw_okq (⟨"StoreRealm$Tokens", "addName", "([BII)I"⟩, 4) := ⟨⟨by decide +kernel, by decide +kernel⟩, List.mem_of_getElem? (i := 167) (by decide +kernel), List.mem_of_getElem? (i := 503) (by decide +kernel), List.mem_of_getElem? (i := 504) (by decide +kernel)⟩
theorem lw_p2 : lw_okq (⟨"StoreRealm$Tokens", "add", "(III)V"⟩, 4) := ⟨⟨by decide +kernel, by decide +kernel⟩, List.mem_of_getElem? (i := 167) (by decide +kernel), List.mem_of_getElem? (i := 513) (by decide +kernel), List.mem_of_getElem? (i := 514) (by decide +kernel)⟩
theorem lw_p3 : lw_okq (⟨"StoreRealm$Tokens", "addNumber", "([BII)I"⟩, 4) := ⟨⟨by decide +kernel, by decide +kernel⟩, List.mem_of_getElem? (i := 167) (by decide +kernel), List.mem_of_getElem? (i := 589) (by decide +kernel), List.mem_of_getElem? (i := 590) (by decide +kernel)⟩
theorem lw_p4 : lw_okq (⟨"StoreRealm$OrderBook", "here", "()I"⟩, 8) := ⟨⟨by decide +kernel, by decide +kernel⟩, List.mem_of_getElem? (i := 161) (by decide +kernel), List.mem_of_getElem? (i := 600) (by decide +kernel), List.mem_of_getElem? (i := 601) (by decide +kernel)⟩
theorem lw_p5 : lw_okq (⟨"StoreRealm$OrderBook", "readLine", "()Z"⟩, 8) := ⟨⟨by decide +kernel, by decide +kernel⟩, List.mem_of_getElem? (i := 161) (by decide +kernel), List.mem_of_getElem? (i := 604) (by decide +kernel), List.mem_of_getElem? (i := 605) (by decide +kernel)⟩
theorem lw_p6 : lw_okq (⟨"StoreRealm$OrderBook", "accept", "(I)Z"⟩, 8) := ⟨⟨by decide +kernel, by decide +kernel⟩, List.mem_of_getElem? (i := 161) (by decide +kernel), List.mem_of_getElem? (i := 608) (by decide +kernel), List.mem_of_getElem? (i := 609) (by decide +kernel)⟩
theorem lw_p7 : lw_okq (⟨"StoreRealm$OrderBook", "readEither", "(I)Z"⟩, 8) := ⟨⟨by decide +kernel, by decide +kernel⟩, List.mem_of_getElem? (i := 161) (by decide +kernel), List.mem_of_getElem? (i := 612) (by decide +kernel), List.mem_of_getElem? (i := 613) (by decide +kernel)⟩
theorem lw_p8 : lw_okq (⟨"StoreRealm$OrderBook", "readOne", "(I)Z"⟩, 8) := ⟨⟨by decide +kernel, by decide +kernel⟩, List.mem_of_getElem? (i := 161) (by decide +kernel), List.mem_of_getElem? (i := 616) (by decide +kernel), List.mem_of_getElem? (i := 617) (by decide +kernel)⟩
theorem lw_p9 : lw_okq (⟨"StoreRealm$OrderBook", "readSum", "()Z"⟩, 8) := ⟨⟨by decide +kernel, by decide +kernel⟩, List.mem_of_getElem? (i := 161) (by decide +kernel), List.mem_of_getElem? (i := 624) (by decide +kernel), List.mem_of_getElem? (i := 625) (by decide +kernel)⟩
theorem lw_p10 : lw_okq (⟨"StoreRealm$OrderBook", "readTerm", "()Z"⟩, 8) := ⟨⟨by decide +kernel, by decide +kernel⟩, List.mem_of_getElem? (i := 161) (by decide +kernel), List.mem_of_getElem? (i := 628) (by decide +kernel), List.mem_of_getElem? (i := 629) (by decide +kernel)⟩
theorem lw_p11 : lw_okq (⟨"StoreRealm$OrderBook", "valueHere", "()I"⟩, 8) := ⟨⟨by decide +kernel, by decide +kernel⟩, List.mem_of_getElem? (i := 161) (by decide +kernel), List.mem_of_getElem? (i := 632) (by decide +kernel), List.mem_of_getElem? (i := 633) (by decide +kernel)⟩
theorem lw_p12 : lw_okq (⟨"StoreRealm$OrderBook", "noteFault", "()V"⟩, 8) := ⟨⟨by decide +kernel, by decide +kernel⟩, List.mem_of_getElem? (i := 161) (by decide +kernel), List.mem_of_getElem? (i := 643) (by decide +kernel), List.mem_of_getElem? (i := 644) (by decide +kernel)⟩
theorem lw_p13 : lw_okq (⟨"StoreRealm", "passMonth", "()V"⟩, 9) := ⟨⟨by decide +kernel, by decide +kernel⟩, List.mem_of_getElem? (i := 20) (by decide +kernel), List.mem_of_getElem? (i := 655) (by decide +kernel), List.mem_of_getElem? (i := 656) (by decide +kernel)⟩
theorem lw_p14 : lw_okq (⟨"StoreRealm$Carriers", "unload", "(ILStoreRealm$Land;LStoreRealm$Tally;)V"⟩, 6) := ⟨⟨by decide +kernel, by decide +kernel⟩, List.mem_of_getElem? (i := 135) (by decide +kernel), List.mem_of_getElem? (i := 663) (by decide +kernel), List.mem_of_getElem? (i := 664) (by decide +kernel)⟩
theorem lw_p15 : lw_okq (⟨"StoreRealm", "obey", "(LStoreRealm$Orders;I)V"⟩, 9) := ⟨⟨by decide +kernel, by decide +kernel⟩, List.mem_of_getElem? (i := 20) (by decide +kernel), List.mem_of_getElem? (i := 710) (by decide +kernel), List.mem_of_getElem? (i := 711) (by decide +kernel)⟩
def lw_privs_1 : List (MethodName × Nat) := [(⟨"StoreRealm", "write", "(I)V"⟩, 9), (⟨"StoreRealm$Tokens", "addName", "([BII)I"⟩, 4), (⟨"StoreRealm$Tokens", "add", "(III)V"⟩, 4), (⟨"StoreRealm$Tokens", "addNumber", "([BII)I"⟩, 4), (⟨"StoreRealm$OrderBook", "here", "()I"⟩, 8), (⟨"StoreRealm$OrderBook", "readLine", "()Z"⟩, 8), (⟨"StoreRealm$OrderBook", "accept", "(I)Z"⟩, 8), (⟨"StoreRealm$OrderBook", "readEither", "(I)Z"⟩, 8), (⟨"StoreRealm$OrderBook", "readOne", "(I)Z"⟩, 8), (⟨"StoreRealm$OrderBook", "readSum", "()Z"⟩, 8), (⟨"StoreRealm$OrderBook", "readTerm", "()Z"⟩, 8), (⟨"StoreRealm$OrderBook", "valueHere", "()I"⟩, 8), (⟨"StoreRealm$OrderBook", "noteFault", "()V"⟩, 8), (⟨"StoreRealm", "passMonth", "()V"⟩, 9), (⟨"StoreRealm$Carriers", "unload", "(ILStoreRealm$Land;LStoreRealm$Tally;)V"⟩, 6), (⟨"StoreRealm", "obey", "(LStoreRealm$Orders;I)V"⟩, 9)]
theorem lw_r1 : ∀ q ∈ lw_privs_1, lw_okq q := List.forall_mem_cons.mpr ⟨lw_p0, List.forall_mem_cons.mpr ⟨lw_p1, List.forall_mem_cons.mpr ⟨lw_p2, List.forall_mem_cons.mpr ⟨lw_p3, List.forall_mem_cons.mpr ⟨lw_p4, List.forall_mem_cons.mpr ⟨lw_p5, List.forall_mem_cons.mpr ⟨lw_p6, List.forall_mem_cons.mpr ⟨lw_p7, List.forall_mem_cons.mpr ⟨lw_p8, List.forall_mem_cons.mpr ⟨lw_p9, List.forall_mem_cons.mpr ⟨lw_p10, List.forall_mem_cons.mpr ⟨lw_p11, List.forall_mem_cons.mpr ⟨lw_p12, List.forall_mem_cons.mpr ⟨lw_p13, List.forall_mem_cons.mpr ⟨lw_p14, List.forall_mem_cons.mpr ⟨lw_p15, fun _ h => absurd h List.not_mem_nil⟩⟩⟩⟩⟩⟩⟩⟩⟩⟩⟩⟩⟩⟩⟩⟩
theorem lw_p16 : lw_okq (⟨"StoreRealm$Planner", "gatherFeasts", "(LStoreRealm$Land;LStoreRealm$Feasts;I)V"⟩, 17) := ⟨⟨by decide +kernel, by decide +kernel⟩, List.mem_of_getElem? (i := 288) (by decide +kernel), List.mem_of_getElem? (i := 747) (by decide +kernel), List.mem_of_getElem? (i := 748) (by decide +kernel)⟩
theorem lw_p17 : lw_okq (⟨"StoreRealm$Planner", "gatherPiles", "(LStoreRealm$Land;I)V"⟩, 17) := ⟨⟨by decide +kernel, by decide +kernel⟩, List.mem_of_getElem? (i := 288) (by decide +kernel), List.mem_of_getElem? (i := 751) (by decide +kernel), List.mem_of_getElem? (i := 752) (by decide +kernel)⟩
theorem lw_p18 : lw_okq (⟨"StoreRealm$Planner", "feastsServedAt", "(I)I"⟩, 17) := ⟨⟨by decide +kernel, by decide +kernel⟩, List.mem_of_getElem? (i := 288) (by decide +kernel), List.mem_of_getElem? (i := 755) (by decide +kernel), List.mem_of_getElem? (i := 756) (by decide +kernel)⟩
theorem lw_p19 : lw_okq (⟨"StoreRealm$Planner", "findDays", "(LStoreRealm$Land;)V"⟩, 17) := ⟨⟨by decide +kernel, by decide +kernel⟩, List.mem_of_getElem? (i := 288) (by decide +kernel), List.mem_of_getElem? (i := 759) (by decide +kernel), List.mem_of_getElem? (i := 760) (by decide +kernel)⟩
theorem lw_p20 : lw_okq (⟨"StoreRealm$Planner", "cheapestFeast", "()I"⟩, 17) := ⟨⟨by decide +kernel, by decide +kernel⟩, List.mem_of_getElem? (i := 288) (by decide +kernel), List.mem_of_getElem? (i := 768) (by decide +kernel), List.mem_of_getElem? (i := 769) (by decide +kernel)⟩
theorem lw_p21 : lw_okq (⟨"StoreRealm$Planner", "goForth", "()Z"⟩, 17) := ⟨⟨by decide +kernel, by decide +kernel⟩, List.mem_of_getElem? (i := 288) (by decide +kernel), List.mem_of_getElem? (i := 774) (by decide +kernel), List.mem_of_getElem? (i := 775) (by decide +kernel)⟩
theorem lw_p22 : lw_okq (⟨"StoreRealm$Planner", "goBack", "()Z"⟩, 17) := ⟨⟨by decide +kernel, by decide +kernel⟩, List.mem_of_getElem? (i := 288) (by decide +kernel), List.mem_of_getElem? (i := 778) (by decide +kernel), List.mem_of_getElem? (i := 779) (by decide +kernel)⟩
theorem lw_p23 : lw_okq (⟨"StoreRealm$Planner", "giveAlong", "(I)V"⟩, 17) := ⟨⟨by decide +kernel, by decide +kernel⟩, List.mem_of_getElem? (i := 288) (by decide +kernel), List.mem_of_getElem? (i := 782) (by decide +kernel), List.mem_of_getElem? (i := 783) (by decide +kernel)⟩
theorem lw_p24 : lw_okq (⟨"StoreRealm$Planner", "measuresAlong", "(I)I"⟩, 17) := ⟨⟨by decide +kernel, by decide +kernel⟩, List.mem_of_getElem? (i := 288) (by decide +kernel), List.mem_of_getElem? (i := 786) (by decide +kernel), List.mem_of_getElem? (i := 787) (by decide +kernel)⟩
theorem lw_p25 : lw_okq (⟨"StoreRealm$Ledger", "gatherVoices", "(III)V"⟩, 10) := ⟨⟨by decide +kernel, by decide +kernel⟩, List.mem_of_getElem? (i := 348) (by decide +kernel), List.mem_of_getElem? (i := 838) (by decide +kernel), List.mem_of_getElem? (i := 839) (by decide +kernel)⟩
theorem lw_p26 : lw_okq (⟨"StoreRealm$Ledger", "voicesFor", "(I)I"⟩, 10) := ⟨⟨by decide +kernel, by decide +kernel⟩, List.mem_of_getElem? (i := 348) (by decide +kernel), List.mem_of_getElem? (i := 843) (by decide +kernel), List.mem_of_getElem? (i := 844) (by decide +kernel)⟩
theorem lw_p27 : lw_okq (⟨"StoreRealmModel", "isTown", "(I)Z"⟩, 70) := ⟨⟨by decide +kernel, by decide +kernel⟩, List.mem_of_getElem? (i := 860) (by decide +kernel), List.mem_of_getElem? (i := 1086) (by decide +kernel), List.mem_of_getElem? (i := 1087) (by decide +kernel)⟩
theorem lw_p28 : lw_okq (⟨"StoreRealmModel", "comeIn", "(IIII)I"⟩, 70) := ⟨⟨by decide +kernel, by decide +kernel⟩, List.mem_of_getElem? (i := 860) (by decide +kernel), List.mem_of_getElem? (i := 1104) (by decide +kernel), List.mem_of_getElem? (i := 1105) (by decide +kernel)⟩
theorem lw_p29 : lw_okq (⟨"StoreRealmModel", "space", "(I)I"⟩, 70) := ⟨⟨by decide +kernel, by decide +kernel⟩, List.mem_of_getElem? (i := 860) (by decide +kernel), List.mem_of_getElem? (i := 1108) (by decide +kernel), List.mem_of_getElem? (i := 1109) (by decide +kernel)⟩
theorem lw_p30 : lw_okq (⟨"StoreRealmModel", "inStore", "(I)I"⟩, 70) := ⟨⟨by decide +kernel, by decide +kernel⟩, List.mem_of_getElem? (i := 860) (by decide +kernel), List.mem_of_getElem? (i := 1112) (by decide +kernel), List.mem_of_getElem? (i := 1113) (by decide +kernel)⟩
theorem lw_p31 : lw_okq (⟨"StoreRealmModel", "goOut", "(III)I"⟩, 70) := ⟨⟨by decide +kernel, by decide +kernel⟩, List.mem_of_getElem? (i := 860) (by decide +kernel), List.mem_of_getElem? (i := 1123) (by decide +kernel), List.mem_of_getElem? (i := 1124) (by decide +kernel)⟩
def lw_privs_2 : List (MethodName × Nat) := [(⟨"StoreRealm$Planner", "gatherFeasts", "(LStoreRealm$Land;LStoreRealm$Feasts;I)V"⟩, 17), (⟨"StoreRealm$Planner", "gatherPiles", "(LStoreRealm$Land;I)V"⟩, 17), (⟨"StoreRealm$Planner", "feastsServedAt", "(I)I"⟩, 17), (⟨"StoreRealm$Planner", "findDays", "(LStoreRealm$Land;)V"⟩, 17), (⟨"StoreRealm$Planner", "cheapestFeast", "()I"⟩, 17), (⟨"StoreRealm$Planner", "goForth", "()Z"⟩, 17), (⟨"StoreRealm$Planner", "goBack", "()Z"⟩, 17), (⟨"StoreRealm$Planner", "giveAlong", "(I)V"⟩, 17), (⟨"StoreRealm$Planner", "measuresAlong", "(I)I"⟩, 17), (⟨"StoreRealm$Ledger", "gatherVoices", "(III)V"⟩, 10), (⟨"StoreRealm$Ledger", "voicesFor", "(I)I"⟩, 10), (⟨"StoreRealmModel", "isTown", "(I)Z"⟩, 70), (⟨"StoreRealmModel", "comeIn", "(IIII)I"⟩, 70), (⟨"StoreRealmModel", "space", "(I)I"⟩, 70), (⟨"StoreRealmModel", "inStore", "(I)I"⟩, 70), (⟨"StoreRealmModel", "goOut", "(III)I"⟩, 70)]
theorem lw_r2 : ∀ q ∈ lw_privs_2, lw_okq q := List.forall_mem_cons.mpr ⟨lw_p16, List.forall_mem_cons.mpr ⟨lw_p17, List.forall_mem_cons.mpr ⟨lw_p18, List.forall_mem_cons.mpr ⟨lw_p19, List.forall_mem_cons.mpr ⟨lw_p20, List.forall_mem_cons.mpr ⟨lw_p21, List.forall_mem_cons.mpr ⟨lw_p22, List.forall_mem_cons.mpr ⟨lw_p23, List.forall_mem_cons.mpr ⟨lw_p24, List.forall_mem_cons.mpr ⟨lw_p25, List.forall_mem_cons.mpr ⟨lw_p26, List.forall_mem_cons.mpr ⟨lw_p27, List.forall_mem_cons.mpr ⟨lw_p28, List.forall_mem_cons.mpr ⟨lw_p29, List.forall_mem_cons.mpr ⟨lw_p30, List.forall_mem_cons.mpr ⟨lw_p31, fun _ h => absurd h List.not_mem_nil⟩⟩⟩⟩⟩⟩⟩⟩⟩⟩⟩⟩⟩⟩⟩⟩
theorem lw_p32 : lw_okq (⟨"StoreRealmModel", "stockOf", "(II)I"⟩, 70) := ⟨⟨by decide +kernel, by decide +kernel⟩, List.mem_of_getElem? (i := 860) (by decide +kernel), List.mem_of_getElem? (i := 1131) (by decide +kernel), List.mem_of_getElem? (i := 1132) (by decide +kernel)⟩
theorem lw_p33 : lw_okq (⟨"StoreRealmModel", "next", "()V"⟩, 70) := ⟨⟨by decide +kernel, by decide +kernel⟩, List.mem_of_getElem? (i := 860) (by decide +kernel), List.mem_of_getElem? (i := 1139) (by decide +kernel), List.mem_of_getElem? (i := 1140) (by decide +kernel)⟩
theorem lw_p34 : lw_okq (⟨"StoreRealmModel", "sign", "(I)I"⟩, 70) := ⟨⟨by decide +kernel, by decide +kernel⟩, List.mem_of_getElem? (i := 860) (by decide +kernel), List.mem_of_getElem? (i := 1143) (by decide +kernel), List.mem_of_getElem? (i := 1144) (by decide +kernel)⟩
theorem lw_p35 : lw_okq (⟨"StoreRealmModel", "isGood", "()Z"⟩, 70) := ⟨⟨by decide +kernel, by decide +kernel⟩, List.mem_of_getElem? (i := 860) (by decide +kernel), List.mem_of_getElem? (i := 1153) (by decide +kernel), List.mem_of_getElem? (i := 1154) (by decide +kernel)⟩
theorem lw_p36 : lw_okq (⟨"StoreRealmModel", "readLine", "()V"⟩, 70) := ⟨⟨by decide +kernel, by decide +kernel⟩, List.mem_of_getElem? (i := 860) (by decide +kernel), List.mem_of_getElem? (i := 1157) (by decide +kernel), List.mem_of_getElem? (i := 1158) (by decide +kernel)⟩
theorem lw_p37 : lw_okq (⟨"StoreRealmModel", "isWord", "(J)Z"⟩, 70) := ⟨⟨by decide +kernel, by decide +kernel⟩, List.mem_of_getElem? (i := 860) (by decide +kernel), List.mem_of_getElem? (i := 1162) (by decide +kernel), List.mem_of_getElem? (i := 1163) (by decide +kernel)⟩
theorem lw_p38 : lw_okq (⟨"StoreRealmModel", "wrong", "()V"⟩, 70) := ⟨⟨by decide +kernel, by decide +kernel⟩, List.mem_of_getElem? (i := 860) (by decide +kernel), List.mem_of_getElem? (i := 1167) (by decide +kernel), List.mem_of_getElem? (i := 1168) (by decide +kernel)⟩
theorem lw_p39 : lw_okq (⟨"StoreRealmModel", "fails", "(II)V"⟩, 70) := ⟨⟨by decide +kernel, by decide +kernel⟩, List.mem_of_getElem? (i := 860) (by decide +kernel), List.mem_of_getElem? (i := 1171) (by decide +kernel), List.mem_of_getElem? (i := 1172) (by decide +kernel)⟩
theorem lw_p40 : lw_okq (⟨"StoreRealmModel", "e", "()V"⟩, 70) := ⟨⟨by decide +kernel, by decide +kernel⟩, List.mem_of_getElem? (i := 860) (by decide +kernel), List.mem_of_getElem? (i := 1175) (by decide +kernel), List.mem_of_getElem? (i := 1176) (by decide +kernel)⟩
theorem lw_p41 : lw_okq (⟨"StoreRealmModel", "pile", "(I)V"⟩, 70) := ⟨⟨by decide +kernel, by decide +kernel⟩, List.mem_of_getElem? (i := 860) (by decide +kernel), List.mem_of_getElem? (i := 1179) (by decide +kernel), List.mem_of_getElem? (i := 1180) (by decide +kernel)⟩
theorem lw_p42 : lw_okq (⟨"StoreRealmModel", "one", "()Z"⟩, 70) := ⟨⟨by decide +kernel, by decide +kernel⟩, List.mem_of_getElem? (i := 860) (by decide +kernel), List.mem_of_getElem? (i := 1183) (by decide +kernel), List.mem_of_getElem? (i := 1184) (by decide +kernel)⟩
theorem lw_p43 : lw_okq (⟨"StoreRealmModel", "is", "(I)Z"⟩, 70) := ⟨⟨by decide +kernel, by decide +kernel⟩, List.mem_of_getElem? (i := 860) (by decide +kernel), List.mem_of_getElem? (i := 1187) (by decide +kernel), List.mem_of_getElem? (i := 1188) (by decide +kernel)⟩
theorem lw_p44 : lw_okq (⟨"StoreRealmModel", "readSum", "()V"⟩, 70) := ⟨⟨by decide +kernel, by decide +kernel⟩, List.mem_of_getElem? (i := 860) (by decide +kernel), List.mem_of_getElem? (i := 1192) (by decide +kernel), List.mem_of_getElem? (i := 1193) (by decide +kernel)⟩
theorem lw_p45 : lw_okq (⟨"StoreRealmModel", "term", "()V"⟩, 70) := ⟨⟨by decide +kernel, by decide +kernel⟩, List.mem_of_getElem? (i := 860) (by decide +kernel), List.mem_of_getElem? (i := 1196) (by decide +kernel), List.mem_of_getElem? (i := 1197) (by decide +kernel)⟩
theorem lw_p46 : lw_okq (⟨"StoreRealmModel", "aNumber", "(I)I"⟩, 70) := ⟨⟨by decide +kernel, by decide +kernel⟩, List.mem_of_getElem? (i := 860) (by decide +kernel), List.mem_of_getElem? (i := 1205) (by decide +kernel), List.mem_of_getElem? (i := 1206) (by decide +kernel)⟩
theorem lw_p47 : lw_okq (⟨"StoreRealmModel", "must", "(Z)V"⟩, 70) := ⟨⟨by decide +kernel, by decide +kernel⟩, List.mem_of_getElem? (i := 860) (by decide +kernel), List.mem_of_getElem? (i := 1209) (by decide +kernel), List.mem_of_getElem? (i := 1210) (by decide +kernel)⟩
def lw_privs_3 : List (MethodName × Nat) := [(⟨"StoreRealmModel", "stockOf", "(II)I"⟩, 70), (⟨"StoreRealmModel", "next", "()V"⟩, 70), (⟨"StoreRealmModel", "sign", "(I)I"⟩, 70), (⟨"StoreRealmModel", "isGood", "()Z"⟩, 70), (⟨"StoreRealmModel", "readLine", "()V"⟩, 70), (⟨"StoreRealmModel", "isWord", "(J)Z"⟩, 70), (⟨"StoreRealmModel", "wrong", "()V"⟩, 70), (⟨"StoreRealmModel", "fails", "(II)V"⟩, 70), (⟨"StoreRealmModel", "e", "()V"⟩, 70), (⟨"StoreRealmModel", "pile", "(I)V"⟩, 70), (⟨"StoreRealmModel", "one", "()Z"⟩, 70), (⟨"StoreRealmModel", "is", "(I)Z"⟩, 70), (⟨"StoreRealmModel", "readSum", "()V"⟩, 70), (⟨"StoreRealmModel", "term", "()V"⟩, 70), (⟨"StoreRealmModel", "aNumber", "(I)I"⟩, 70), (⟨"StoreRealmModel", "must", "(Z)V"⟩, 70)]
theorem lw_r3 : ∀ q ∈ lw_privs_3, lw_okq q := List.forall_mem_cons.mpr ⟨lw_p32, List.forall_mem_cons.mpr ⟨lw_p33, List.forall_mem_cons.mpr ⟨lw_p34, List.forall_mem_cons.mpr ⟨lw_p35, List.forall_mem_cons.mpr ⟨lw_p36, List.forall_mem_cons.mpr ⟨lw_p37, List.forall_mem_cons.mpr ⟨lw_p38, List.forall_mem_cons.mpr ⟨lw_p39, List.forall_mem_cons.mpr ⟨lw_p40, List.forall_mem_cons.mpr ⟨lw_p41, List.forall_mem_cons.mpr ⟨lw_p42, List.forall_mem_cons.mpr ⟨lw_p43, List.forall_mem_cons.mpr ⟨lw_p44, List.forall_mem_cons.mpr ⟨lw_p45, List.forall_mem_cons.mpr ⟨lw_p46, List.forall_mem_cons.mpr ⟨lw_p47, fun _ h => absurd h List.not_mem_nil⟩⟩⟩⟩⟩⟩⟩⟩⟩⟩⟩⟩⟩⟩⟩⟩
theorem lw_p48 : lw_okq (⟨"StoreRealmModel", "aKind", "()I"⟩, 70) := ⟨⟨by decide +kernel, by decide +kernel⟩, List.mem_of_getElem? (i := 860) (by decide +kernel), List.mem_of_getElem? (i := 1213) (by decide +kernel), List.mem_of_getElem? (i := 1214) (by decide +kernel)⟩
theorem lw_p49 : lw_okq (⟨"StoreRealmModel", "kindHere", "()I"⟩, 70) := ⟨⟨by decide +kernel, by decide +kernel⟩, List.mem_of_getElem? (i := 860) (by decide +kernel), List.mem_of_getElem? (i := 1217) (by decide +kernel), List.mem_of_getElem? (i := 1218) (by decide +kernel)⟩
theorem lw_p50 : lw_okq (⟨"StoreRealmModel", "step", "(III)V"⟩, 70) := ⟨⟨by decide +kernel, by decide +kernel⟩, List.mem_of_getElem? (i := 860) (by decide +kernel), List.mem_of_getElem? (i := 1224) (by decide +kernel), List.mem_of_getElem? (i := 1225) (by decide +kernel)⟩
theorem lw_p51 : lw_okq (⟨"StoreRealmModel", "behind", "()Z"⟩, 70) := ⟨⟨by decide +kernel, by decide +kernel⟩, List.mem_of_getElem? (i := 860) (by decide +kernel), List.mem_of_getElem? (i := 1228) (by decide +kernel), List.mem_of_getElem? (i := 1229) (by decide +kernel)⟩
theorem lw_p52 : lw_okq (⟨"StoreRealmModel", "arrive", "()V"⟩, 70) := ⟨⟨by decide +kernel, by decide +kernel⟩, List.mem_of_getElem? (i := 860) (by decide +kernel), List.mem_of_getElem? (i := 1244) (by decide +kernel), List.mem_of_getElem? (i := 1245) (by decide +kernel)⟩
theorem lw_p53 : lw_okq (⟨"StoreRealmModel", "age", "()V"⟩, 70) := ⟨⟨by decide +kernel, by decide +kernel⟩, List.mem_of_getElem? (i := 860) (by decide +kernel), List.mem_of_getElem? (i := 1248) (by decide +kernel), List.mem_of_getElem? (i := 1249) (by decide +kernel)⟩
theorem lw_p54 : lw_okq (⟨"StoreRealmModel", "eat", "()V"⟩, 70) := ⟨⟨by decide +kernel, by decide +kernel⟩, List.mem_of_getElem? (i := 860) (by decide +kernel), List.mem_of_getElem? (i := 1252) (by decide +kernel), List.mem_of_getElem? (i := 1253) (by decide +kernel)⟩
theorem lw_p55 : lw_okq (⟨"StoreRealmModel", "holds", "(I)Z"⟩, 70) := ⟨⟨by decide +kernel, by decide +kernel⟩, List.mem_of_getElem? (i := 860) (by decide +kernel), List.mem_of_getElem? (i := 1256) (by decide +kernel), List.mem_of_getElem? (i := 1257) (by decide +kernel)⟩
theorem lw_p56 : lw_okq (⟨"StoreRealmModel", "leaf", "(III)I"⟩, 70) := ⟨⟨by decide +kernel, by decide +kernel⟩, List.mem_of_getElem? (i := 860) (by decide +kernel), List.mem_of_getElem? (i := 1260) (by decide +kernel), List.mem_of_getElem? (i := 1261) (by decide +kernel)⟩
theorem lw_p57 : lw_okq (⟨"StoreRealmModel", "oldOf", "(II)I"⟩, 70) := ⟨⟨by decide +kernel, by decide +kernel⟩, List.mem_of_getElem? (i := 860) (by decide +kernel), List.mem_of_getElem? (i := 1264) (by decide +kernel), List.mem_of_getElem? (i := 1265) (by decide +kernel)⟩
theorem lw_p58 : lw_okq (⟨"StoreRealmModel", "send", "(I)V"⟩, 70) := ⟨⟨by decide +kernel, by decide +kernel⟩, List.mem_of_getElem? (i := 860) (by decide +kernel), List.mem_of_getElem? (i := 1271) (by decide +kernel), List.mem_of_getElem? (i := 1272) (by decide +kernel)⟩
theorem lw_p59 : lw_okq (⟨"StoreRealmModel", "feedAll", "()V"⟩, 70) := ⟨⟨by decide +kernel, by decide +kernel⟩, List.mem_of_getElem? (i := 860) (by decide +kernel), List.mem_of_getElem? (i := 1294) (by decide +kernel), List.mem_of_getElem? (i := 1295) (by decide +kernel)⟩
theorem lw_p60 : lw_okq (⟨"StoreRealmModel", "giveMore", "(I)Z"⟩, 70) := ⟨⟨by decide +kernel, by decide +kernel⟩, List.mem_of_getElem? (i := 860) (by decide +kernel), List.mem_of_getElem? (i := 1298) (by decide +kernel), List.mem_of_getElem? (i := 1299) (by decide +kernel)⟩
theorem lw_p61 : lw_okq (⟨"StoreRealmModel", "measure", "(I)V"⟩, 70) := ⟨⟨by decide +kernel, by decide +kernel⟩, List.mem_of_getElem? (i := 860) (by decide +kernel), List.mem_of_getElem? (i := 1302) (by decide +kernel), List.mem_of_getElem? (i := 1303) (by decide +kernel)⟩
theorem lw_p62 : lw_okq (⟨"StoreRealmModel", "nearer", "(I)Z"⟩, 70) := ⟨⟨by decide +kernel, by decide +kernel⟩, List.mem_of_getElem? (i := 860) (by decide +kernel), List.mem_of_getElem? (i := 1307) (by decide +kernel), List.mem_of_getElem? (i := 1308) (by decide +kernel)⟩
theorem lw_p63 : lw_okq (⟨"StoreRealmModel", "canGo", "(II)Z"⟩, 70) := ⟨⟨by decide +kernel, by decide +kernel⟩, List.mem_of_getElem? (i := 860) (by decide +kernel), List.mem_of_getElem? (i := 1311) (by decide +kernel), List.mem_of_getElem? (i := 1312) (by decide +kernel)⟩
def lw_privs_4 : List (MethodName × Nat) := [(⟨"StoreRealmModel", "aKind", "()I"⟩, 70), (⟨"StoreRealmModel", "kindHere", "()I"⟩, 70), (⟨"StoreRealmModel", "step", "(III)V"⟩, 70), (⟨"StoreRealmModel", "behind", "()Z"⟩, 70), (⟨"StoreRealmModel", "arrive", "()V"⟩, 70), (⟨"StoreRealmModel", "age", "()V"⟩, 70), (⟨"StoreRealmModel", "eat", "()V"⟩, 70), (⟨"StoreRealmModel", "holds", "(I)Z"⟩, 70), (⟨"StoreRealmModel", "leaf", "(III)I"⟩, 70), (⟨"StoreRealmModel", "oldOf", "(II)I"⟩, 70), (⟨"StoreRealmModel", "send", "(I)V"⟩, 70), (⟨"StoreRealmModel", "feedAll", "()V"⟩, 70), (⟨"StoreRealmModel", "giveMore", "(I)Z"⟩, 70), (⟨"StoreRealmModel", "measure", "(I)V"⟩, 70), (⟨"StoreRealmModel", "nearer", "(I)Z"⟩, 70), (⟨"StoreRealmModel", "canGo", "(II)Z"⟩, 70)]
theorem lw_r4 : ∀ q ∈ lw_privs_4, lw_okq q := List.forall_mem_cons.mpr ⟨lw_p48, List.forall_mem_cons.mpr ⟨lw_p49, List.forall_mem_cons.mpr ⟨lw_p50, List.forall_mem_cons.mpr ⟨lw_p51, List.forall_mem_cons.mpr ⟨lw_p52, List.forall_mem_cons.mpr ⟨lw_p53, List.forall_mem_cons.mpr ⟨lw_p54, List.forall_mem_cons.mpr ⟨lw_p55, List.forall_mem_cons.mpr ⟨lw_p56, List.forall_mem_cons.mpr ⟨lw_p57, List.forall_mem_cons.mpr ⟨lw_p58, List.forall_mem_cons.mpr ⟨lw_p59, List.forall_mem_cons.mpr ⟨lw_p60, List.forall_mem_cons.mpr ⟨lw_p61, List.forall_mem_cons.mpr ⟨lw_p62, List.forall_mem_cons.mpr ⟨lw_p63, fun _ h => absurd h List.not_mem_nil⟩⟩⟩⟩⟩⟩⟩⟩⟩⟩⟩⟩⟩⟩⟩⟩
theorem lw_p64 : lw_okq (⟨"StoreRealmModel", "daysOf", "(II)I"⟩, 70) := ⟨⟨by decide +kernel, by decide +kernel⟩, List.mem_of_getElem? (i := 860) (by decide +kernel), List.mem_of_getElem? (i := 1315) (by decide +kernel), List.mem_of_getElem? (i := 1316) (by decide +kernel)⟩
theorem lw_p65 : lw_okq (⟨"StoreRealmModel", "lacks", "(II)I"⟩, 70) := ⟨⟨by decide +kernel, by decide +kernel⟩, List.mem_of_getElem? (i := 860) (by decide +kernel), List.mem_of_getElem? (i := 1327) (by decide +kernel), List.mem_of_getElem? (i := 1328) (by decide +kernel)⟩
def lw_privs_5 : List (MethodName × Nat) := [(⟨"StoreRealmModel", "daysOf", "(II)I"⟩, 70), (⟨"StoreRealmModel", "lacks", "(II)I"⟩, 70)]
theorem lw_r5 : ∀ q ∈ lw_privs_5, lw_okq q := List.forall_mem_cons.mpr ⟨lw_p64, List.forall_mem_cons.mpr ⟨lw_p65, fun _ h => absurd h List.not_mem_nil⟩⟩
def lw_privs : List (MethodName × Nat) := lw_privs_1 ++ (lw_privs_2 ++ (lw_privs_3 ++ (lw_privs_4 ++ (lw_privs_5))))
def lw_tbl : List Cond := k2_sels lw_privs ++ tables_1
theorem lw_privs_ok : ∀ q ∈ lw_privs, lw_okq q := by
  show ∀ q ∈ lw_privs_1 ++ (lw_privs_2 ++ (lw_privs_3 ++ (lw_privs_4 ++ (lw_privs_5)))), lw_okq q
  exact List.forall_mem_append.mpr ⟨lw_r1, List.forall_mem_append.mpr ⟨lw_r2, List.forall_mem_append.mpr ⟨lw_r3, List.forall_mem_append.mpr ⟨lw_r4, lw_r5⟩⟩⟩⟩
end
section
def RX0 : String := "StoreRealm$Carriers"
def TX0 : u_T := fun k => match k with
  | 0 => ("StoreRealm$Carriers", "to", "[I", true)
  | 1 => ("StoreRealm$Carriers", "kind", "[I", true)
  | 2 => ("StoreRealm$Carriers", "age", "[I", true)
  | 3 => ("StoreRealm$Carriers", "measures", "[I", true)
  | 4 => ("StoreRealm$Carriers", "arrival", "[I", true)
  | _ => ("StoreRealm$Carriers", "size", "I", false)
def tyX0 : Nat → FieldType := fun k => match k with
  | 0 => .array .int
  | 1 => .array .int
  | 2 => .array .int
  | 3 => .array .int
  | 4 => .array .int
  | _ => .int
theorem nmX0 : ∀ a, a < 6 → ∀ b, b < 6 → a ≠ b → (TX0 a).2.1 ≠ (TX0 b).2.1 := by decide +kernel
theorem tyX0_ok : ∀ k, k < 6 → parseFieldDescriptor (TX0 k).2.2.1 = some (tyX0 k) := by decide +kernel
abbrev cX0_init : ByteArray := prog_2_method_1_code
def yX0_init : MethodName := ⟨RX0, "<init>", "()V"⟩
abbrev cX0_send : ByteArray := prog_2_method_2_code
def yX0_send : MethodName := ⟨RX0, "send", "(IIIII)V"⟩
abbrev cX0_allMeasures : ByteArray := prog_2_method_3_code
def yX0_allMeasures : MethodName := ⟨RX0, "allMeasures", "()I"⟩
abbrev cX0_grow : ByteArray := prog_2_method_4_code
def yX0_grow : MethodName := ⟨RX0, "grow", "()V"⟩
abbrev cX0_arrive : ByteArray := prog_2_method_5_code
def yX0_arrive : MethodName := ⟨RX0, "arrive", "(LStoreRealm$Land;LStoreRealm$Tally;)V"⟩
abbrev cX0_unload : ByteArray := prog_2_method_6_code
def yX0_unload : MethodName := ⟨RX0, "unload", "(ILStoreRealm$Land;LStoreRealm$Tally;)V"⟩
def RX1 : String := "StoreRealm$Feasts"
def TX1 : u_T := fun k => match k with
  | 0 => ("StoreRealm$Feasts", "town", "[I", true)
  | 1 => ("StoreRealm$Feasts", "month", "[I", true)
  | 2 => ("StoreRealm$Feasts", "kind", "[I", true)
  | 3 => ("StoreRealm$Feasts", "measures", "[I", true)
  | _ => ("StoreRealm$Feasts", "size", "I", false)
def tyX1 : Nat → FieldType := fun k => match k with
  | 0 => .array .int
  | 1 => .array .int
  | 2 => .array .int
  | 3 => .array .int
  | _ => .int
theorem nmX1 : ∀ a, a < 5 → ∀ b, b < 5 → a ≠ b → (TX1 a).2.1 ≠ (TX1 b).2.1 := by decide +kernel
theorem tyX1_ok : ∀ k, k < 5 → parseFieldDescriptor (TX1 k).2.2.1 = some (tyX1 k) := by decide +kernel
abbrev cX1_init : ByteArray := prog_3_method_1_code
def yX1_init : MethodName := ⟨RX1, "<init>", "()V"⟩
abbrev cX1_add : ByteArray := prog_3_method_2_code
def yX1_add : MethodName := ⟨RX1, "add", "(IIII)I"⟩
def RX2 : String := "StoreRealm$Land"
def TX2 : u_T := fun k => match k with
  | 0 => ("StoreRealm$Land", "towns", "[LStoreRealm$Town;", true)
  | 1 => ("StoreRealm$Land", "days", "[[I", true)
  | 2 => ("StoreRealm$Land", "keeping", "[I", true)
  | 3 => ("StoreRealm$Land", "townCount", "I", false)
  | 4 => ("StoreRealm$Land", "month", "I", false)
  | _ => ("StoreRealm$Land", "hands", "I", false)
def tyX2 : Nat → FieldType := fun k => match k with
  | 0 => .array (.object "StoreRealm$Town")
  | 1 => .array (.array .int)
  | 2 => .array .int
  | 3 => .int
  | 4 => .int
  | _ => .int
theorem nmX2 : ∀ a, a < 6 → ∀ b, b < 6 → a ≠ b → (TX2 a).2.1 ≠ (TX2 b).2.1 := by decide +kernel
theorem tyX2_ok : ∀ k, k < 6 → parseFieldDescriptor (TX2 k).2.2.1 = some (tyX2 k) := by decide +kernel
abbrev cX2_init : ByteArray := prog_4_method_1_code
def yX2_init : MethodName := ⟨RX2, "<init>", "()V"⟩
abbrev cX2_hasTown : ByteArray := prog_4_method_2_code
def yX2_hasTown : MethodName := ⟨RX2, "hasTown", "(I)Z"⟩
abbrev cX2_found : ByteArray := prog_4_method_3_code
def yX2_found : MethodName := ⟨RX2, "found", "(III)I"⟩
abbrev cX2_growLots : ByteArray := prog_4_method_4_code
def yX2_growLots : MethodName := ⟨RX2, "growLots", "(LStoreRealm$Tally;)V"⟩
abbrev cX2_eat : ByteArray := prog_4_method_5_code
def yX2_eat : MethodName := ⟨RX2, "eat", "(LStoreRealm$Tally;)V"⟩
abbrev cX2_allTens : ByteArray := prog_4_method_6_code
def yX2_allTens : MethodName := ⟨RX2, "allTens", "()I"⟩
abbrev cX2_takeHand : ByteArray := prog_4_method_7_code
def yX2_takeHand : MethodName := ⟨RX2, "takeHand", "(I)V"⟩
def RX3 : String := "StoreRealm$Ledger"
def TX3 : u_T := fun k => match k with
  | 0 => ("StoreRealm$Ledger", "keeper", "[I", true)
  | 1 => ("StoreRealm$Ledger", "subject", "[I", true)
  | 2 => ("StoreRealm$Ledger", "month", "[I", true)
  | 3 => ("StoreRealm$Ledger", "amount", "[I", true)
  | 4 => ("StoreRealm$Ledger", "toldIn", "[I", true)
  | 5 => ("StoreRealm$Ledger", "untoldIn", "[I", true)
  | 6 => ("StoreRealm$Ledger", "size", "I", false)
  | 7 => ("StoreRealm$Ledger", "voice", "[I", true)
  | 8 => ("StoreRealm$Ledger", "bestCount", "I", false)
  | _ => ("StoreRealm$Ledger", "bestVoices", "I", false)
def tyX3 : Nat → FieldType := fun k => match k with
  | 0 => .array .int
  | 1 => .array .int
  | 2 => .array .int
  | 3 => .array .int
  | 4 => .array .int
  | 5 => .array .int
  | 6 => .int
  | 7 => .array .int
  | 8 => .int
  | _ => .int
theorem nmX3 : ∀ a, a < 10 → ∀ b, b < 10 → a ≠ b → (TX3 a).2.1 ≠ (TX3 b).2.1 := by decide +kernel
theorem tyX3_ok : ∀ k, k < 10 → parseFieldDescriptor (TX3 k).2.2.1 = some (tyX3 k) := by decide +kernel
abbrev cX3_init : ByteArray := prog_5_method_1_code
def yX3_init : MethodName := ⟨RX3, "<init>", "()V"⟩
abbrev cX3_add : ByteArray := prog_5_method_2_code
def yX3_add : MethodName := ⟨RX3, "add", "(IIIII)I"⟩
abbrev cX3_withdraw : ByteArray := prog_5_method_3_code
def yX3_withdraw : MethodName := ⟨RX3, "withdraw", "(II)Z"⟩
abbrev cX3_hear : ByteArray := prog_5_method_4_code
def yX3_hear : MethodName := ⟨RX3, "hear", "(III)V"⟩
abbrev cX3_gatherVoices : ByteArray := prog_5_method_5_code
def yX3_gatherVoices : MethodName := ⟨RX3, "gatherVoices", "(III)V"⟩
abbrev cX3_voicesFor : ByteArray := prog_5_method_6_code
def yX3_voicesFor : MethodName := ⟨RX3, "voicesFor", "(I)I"⟩
def RX4 : String := "StoreRealm$OrderBook"
def TX4 : u_T := fun k => match k with
  | 0 => ("StoreRealm$OrderBook", "tokens", "LStoreRealm$Tokens;", true)
  | 1 => ("StoreRealm$OrderBook", "at", "I", false)
  | 2 => ("StoreRealm$OrderBook", "terms", "I", false)
  | 3 => ("StoreRealm$OrderBook", "alike", "Z", false)
  | 4 => ("StoreRealm$OrderBook", "ruling", "LStoreRealm$Orders;", false)
  | 5 => ("StoreRealm$OrderBook", "draft", "LStoreRealm$Orders;", false)
  | 6 => ("StoreRealm$OrderBook", "faultKind", "I", false)
  | _ => ("StoreRealm$OrderBook", "faultPlace", "I", false)
def tyX4 : Nat → FieldType := fun k => match k with
  | 0 => .object "StoreRealm$Tokens"
  | 1 => .int
  | 2 => .int
  | 3 => .boolean
  | 4 => .object "StoreRealm$Orders"
  | 5 => .object "StoreRealm$Orders"
  | 6 => .int
  | _ => .int
theorem nmX4 : ∀ a, a < 8 → ∀ b, b < 8 → a ≠ b → (TX4 a).2.1 ≠ (TX4 b).2.1 := by decide +kernel
theorem tyX4_ok : ∀ k, k < 8 → parseFieldDescriptor (TX4 k).2.2.1 = some (tyX4 k) := by decide +kernel
abbrev cX4_init : ByteArray := prog_6_method_1_code
def yX4_init : MethodName := ⟨RX4, "<init>", "()V"⟩
abbrev cX4_read : ByteArray := prog_6_method_2_code
def yX4_read : MethodName := ⟨RX4, "read", "([BI)I"⟩
abbrev cX4_noteFault : ByteArray := prog_6_method_3_code
def yX4_noteFault : MethodName := ⟨RX4, "noteFault", "()V"⟩
abbrev cX4_here : ByteArray := prog_6_method_4_code
def yX4_here : MethodName := ⟨RX4, "here", "()I"⟩
abbrev cX4_valueHere : ByteArray := prog_6_method_5_code
def yX4_valueHere : MethodName := ⟨RX4, "valueHere", "()I"⟩
abbrev cX4_accept : ByteArray := prog_6_method_6_code
def yX4_accept : MethodName := ⟨RX4, "accept", "(I)Z"⟩
abbrev cX4_readLine : ByteArray := prog_6_method_7_code
def yX4_readLine : MethodName := ⟨RX4, "readLine", "()Z"⟩
abbrev cX4_readEither : ByteArray := prog_6_method_8_code
def yX4_readEither : MethodName := ⟨RX4, "readEither", "(I)Z"⟩
abbrev cX4_readOne : ByteArray := prog_6_method_9_code
def yX4_readOne : MethodName := ⟨RX4, "readOne", "(I)Z"⟩
abbrev cX4_readSum : ByteArray := prog_6_method_10_code
def yX4_readSum : MethodName := ⟨RX4, "readSum", "()Z"⟩
abbrev cX4_readTerm : ByteArray := prog_6_method_11_code
def yX4_readTerm : MethodName := ⟨RX4, "readTerm", "()Z"⟩
def RX5 : String := "StoreRealm$Orders"
def TX5 : u_T := fun k => match k with
  | 0 => ("StoreRealm$Orders", "steps", "[I", true)
  | 1 => ("StoreRealm$Orders", "stepCount", "I", false)
  | 2 => ("StoreRealm$Orders", "open", "[I", true)
  | 3 => ("StoreRealm$Orders", "lines", "I", false)
  | 4 => ("StoreRealm$Orders", "stepsStop", "[I", true)
  | 5 => ("StoreRealm$Orders", "measures", "[I", true)
  | 6 => ("StoreRealm$Orders", "kind", "[I", true)
  | 7 => ("StoreRealm$Orders", "from", "[I", true)
  | _ => ("StoreRealm$Orders", "to", "[I", true)
def tyX5 : Nat → FieldType := fun k => match k with
  | 0 => .array .int
  | 1 => .int
  | 2 => .array .int
  | 3 => .int
  | 4 => .array .int
  | 5 => .array .int
  | 6 => .array .int
  | 7 => .array .int
  | _ => .array .int
theorem nmX5 : ∀ a, a < 9 → ∀ b, b < 9 → a ≠ b → (TX5 a).2.1 ≠ (TX5 b).2.1 := by decide +kernel
theorem tyX5_ok : ∀ k, k < 9 → parseFieldDescriptor (TX5 k).2.2.1 = some (tyX5 k) := by decide +kernel
abbrev cX5_init : ByteArray := prog_7_method_1_code
def yX5_init : MethodName := ⟨RX5, "<init>", "()V"⟩
abbrev cX5_clear : ByteArray := prog_7_method_2_code
def yX5_clear : MethodName := ⟨RX5, "clear", "()V"⟩
abbrev cX5_addStep : ByteArray := prog_7_method_3_code
def yX5_addStep : MethodName := ⟨RX5, "addStep", "(II)V"⟩
abbrev cX5_addLine : ByteArray := prog_7_method_4_code
def yX5_addLine : MethodName := ⟨RX5, "addLine", "(IIII)V"⟩
abbrev cX5_holds : ByteArray := prog_7_method_5_code
def yX5_holds : MethodName := ⟨RX5, "holds", "(ILStoreRealm$Land;)Z"⟩
abbrev cX5_isTerm : ByteArray := prog_7_method_6_code
def yX5_isTerm : MethodName := ⟨RX5, "isTerm", "(I)Z"⟩
abbrev cX5_termValue : ByteArray := prog_7_method_7_code
def yX5_termValue : MethodName := ⟨RX5, "termValue", "(IILStoreRealm$Land;)I"⟩
abbrev cX5_join : ByteArray := prog_7_method_8_code
def yX5_join : MethodName := ⟨RX5, "join", "(III)I"⟩
def RX6 : String := "StoreRealm$Planner"
def TX6 : u_T := fun k => match k with
  | 0 => ("StoreRealm$Planner", "feastCount", "I", false)
  | 1 => ("StoreRealm$Planner", "feastTown", "[I", true)
  | 2 => ("StoreRealm$Planner", "feastMonth", "[I", true)
  | 3 => ("StoreRealm$Planner", "oldestServing", "[I", true)
  | 4 => ("StoreRealm$Planner", "wanting", "[I", true)
  | 5 => ("StoreRealm$Planner", "feastCost", "[I", true)
  | 6 => ("StoreRealm$Planner", "feastFrom", "[I", true)
  | 7 => ("StoreRealm$Planner", "pileCount", "I", false)
  | 8 => ("StoreRealm$Planner", "pileTown", "[I", true)
  | 9 => ("StoreRealm$Planner", "pileAge", "[I", true)
  | 10 => ("StoreRealm$Planner", "left", "[I", true)
  | 11 => ("StoreRealm$Planner", "pileCost", "[I", true)
  | 12 => ("StoreRealm$Planner", "pileFrom", "[I", true)
  | 13 => ("StoreRealm$Planner", "days", "[I", true)
  | 14 => ("StoreRealm$Planner", "given", "[I", true)
  | 15 => ("StoreRealm$Planner", "measuresGiven", "I", false)
  | _ => ("StoreRealm$Planner", "measureDays", "I", false)
def tyX6 : Nat → FieldType := fun k => match k with
  | 0 => .int
  | 1 => .array .int
  | 2 => .array .int
  | 3 => .array .int
  | 4 => .array .int
  | 5 => .array .int
  | 6 => .array .int
  | 7 => .int
  | 8 => .array .int
  | 9 => .array .int
  | 10 => .array .int
  | 11 => .array .int
  | 12 => .array .int
  | 13 => .array .int
  | 14 => .array .int
  | 15 => .int
  | _ => .int
theorem nmX6 : ∀ a, a < 17 → ∀ b, b < 17 → a ≠ b → (TX6 a).2.1 ≠ (TX6 b).2.1 := by decide +kernel
theorem tyX6_ok : ∀ k, k < 17 → parseFieldDescriptor (TX6 k).2.2.1 = some (tyX6 k) := by decide +kernel
abbrev cX6_init : ByteArray := prog_8_method_1_code
def yX6_init : MethodName := ⟨RX6, "<init>", "()V"⟩
abbrev cX6_plan : ByteArray := prog_8_method_2_code
def yX6_plan : MethodName := ⟨RX6, "plan", "(LStoreRealm$Land;LStoreRealm$Feasts;)V"⟩
abbrev cX6_gatherFeasts : ByteArray := prog_8_method_3_code
def yX6_gatherFeasts : MethodName := ⟨RX6, "gatherFeasts", "(LStoreRealm$Land;LStoreRealm$Feasts;I)V"⟩
abbrev cX6_gatherPiles : ByteArray := prog_8_method_4_code
def yX6_gatherPiles : MethodName := ⟨RX6, "gatherPiles", "(LStoreRealm$Land;I)V"⟩
abbrev cX6_feastsServedAt : ByteArray := prog_8_method_5_code
def yX6_feastsServedAt : MethodName := ⟨RX6, "feastsServedAt", "(I)I"⟩
abbrev cX6_findDays : ByteArray := prog_8_method_6_code
def yX6_findDays : MethodName := ⟨RX6, "findDays", "(LStoreRealm$Land;)V"⟩
abbrev cX6_pair : ByteArray := prog_8_method_7_code
def yX6_pair : MethodName := ⟨RX6, "pair", "(II)I"⟩
abbrev cX6_cheapestFeast : ByteArray := prog_8_method_8_code
def yX6_cheapestFeast : MethodName := ⟨RX6, "cheapestFeast", "()I"⟩
abbrev cX6_goForth : ByteArray := prog_8_method_9_code
def yX6_goForth : MethodName := ⟨RX6, "goForth", "()Z"⟩
abbrev cX6_goBack : ByteArray := prog_8_method_10_code
def yX6_goBack : MethodName := ⟨RX6, "goBack", "()Z"⟩
abbrev cX6_giveAlong : ByteArray := prog_8_method_11_code
def yX6_giveAlong : MethodName := ⟨RX6, "giveAlong", "(I)V"⟩
abbrev cX6_measuresAlong : ByteArray := prog_8_method_12_code
def yX6_measuresAlong : MethodName := ⟨RX6, "measuresAlong", "(I)I"⟩
def RX7 : String := "StoreRealm$Tally"
def TX7 : u_T := fun k => match k with
  | 0 => ("StoreRealm$Tally", "hunger", "I", false)
  | 1 => ("StoreRealm$Tally", "spoilt", "I", false)
  | 2 => ("StoreRealm$Tally", "lost", "I", false)
  | _ => ("StoreRealm$Tally", "arrived", "I", false)
def tyX7 : Nat → FieldType := fun k => match k with
  | 0 => .int
  | 1 => .int
  | 2 => .int
  | _ => .int
theorem nmX7 : ∀ a, a < 4 → ∀ b, b < 4 → a ≠ b → (TX7 a).2.1 ≠ (TX7 b).2.1 := by decide +kernel
theorem tyX7_ok : ∀ k, k < 4 → parseFieldDescriptor (TX7 k).2.2.1 = some (tyX7 k) := by decide +kernel
abbrev cX7_init : ByteArray := prog_9_method_1_code
def yX7_init : MethodName := ⟨RX7, "<init>", "()V"⟩
def RX8 : String := "StoreRealm$Tokens"
def TX8 : u_T := fun k => match k with
  | 0 => ("StoreRealm$Tokens", "what", "[B", true)
  | 1 => ("StoreRealm$Tokens", "value", "[I", true)
  | 2 => ("StoreRealm$Tokens", "place", "[S", true)
  | _ => ("StoreRealm$Tokens", "size", "I", false)
def tyX8 : Nat → FieldType := fun k => match k with
  | 0 => .array .byte
  | 1 => .array .int
  | 2 => .array .short
  | _ => .int
theorem nmX8 : ∀ a, a < 4 → ∀ b, b < 4 → a ≠ b → (TX8 a).2.1 ≠ (TX8 b).2.1 := by decide +kernel
theorem tyX8_ok : ∀ k, k < 4 → parseFieldDescriptor (TX8 k).2.2.1 = some (tyX8 k) := by decide +kernel
abbrev cX8_init : ByteArray := prog_10_method_1_code
def yX8_init : MethodName := ⟨RX8, "<init>", "()V"⟩
abbrev cX8_scan : ByteArray := prog_10_method_2_code
def yX8_scan : MethodName := ⟨RX8, "scan", "([BI)V"⟩
abbrev cX8_add : ByteArray := prog_10_method_3_code
def yX8_add : MethodName := ⟨RX8, "add", "(III)V"⟩
abbrev cX8_addNumber : ByteArray := prog_10_method_4_code
def yX8_addNumber : MethodName := ⟨RX8, "addNumber", "([BII)I"⟩
abbrev cX8_addName : ByteArray := prog_10_method_5_code
def yX8_addName : MethodName := ⟨RX8, "addName", "([BII)I"⟩
abbrev cX8_isTownName : ByteArray := prog_10_method_6_code
def yX8_isTownName : MethodName := ⟨RX8, "isTownName", "([BII)Z"⟩
abbrev cX8_kindOf : ByteArray := prog_10_method_7_code
def yX8_kindOf : MethodName := ⟨RX8, "kindOf", "([BII)I"⟩
abbrev cX8_wordOf : ByteArray := prog_10_method_8_code
def yX8_wordOf : MethodName := ⟨RX8, "wordOf", "([BII)I"⟩
abbrev cX8_spells : ByteArray := prog_10_method_9_code
def yX8_spells : MethodName := ⟨RX8, "spells", "(Ljava/lang/String;[BII)Z"⟩
abbrev cX8_isLetter : ByteArray := prog_10_method_10_code
def yX8_isLetter : MethodName := ⟨RX8, "isLetter", "(I)Z"⟩
abbrev cX8_isDigit : ByteArray := prog_10_method_11_code
def yX8_isDigit : MethodName := ⟨RX8, "isDigit", "(I)Z"⟩
abbrev cX8_isSign : ByteArray := prog_10_method_12_code
def yX8_isSign : MethodName := ⟨RX8, "isSign", "(I)Z"⟩
def RX9 : String := "StoreRealm$Town"
def TX9 : u_T := fun k => match k with
  | 0 => ("StoreRealm$Town", "room", "I", false)
  | 1 => ("StoreRealm$Town", "people", "I", false)
  | 2 => ("StoreRealm$Town", "tens", "I", false)
  | 3 => ("StoreRealm$Town", "handsGiven", "I", false)
  | 4 => ("StoreRealm$Town", "held", "[I", true)
  | _ => ("StoreRealm$Town", "lots", "[[I", true)
def tyX9 : Nat → FieldType := fun k => match k with
  | 0 => .int
  | 1 => .int
  | 2 => .int
  | 3 => .int
  | 4 => .array .int
  | _ => .array (.array .int)
theorem nmX9 : ∀ a, a < 6 → ∀ b, b < 6 → a ≠ b → (TX9 a).2.1 ≠ (TX9 b).2.1 := by decide +kernel
theorem tyX9_ok : ∀ k, k < 6 → parseFieldDescriptor (TX9 k).2.2.1 = some (tyX9 k) := by decide +kernel
abbrev cX9_init : ByteArray := prog_11_method_1_code
def yX9_init : MethodName := ⟨RX9, "<init>", "()V"⟩
abbrev cX9_roomLeft : ByteArray := prog_11_method_2_code
def yX9_roomLeft : MethodName := ⟨RX9, "roomLeft", "()I"⟩
abbrev cX9_store : ByteArray := prog_11_method_3_code
def yX9_store : MethodName := ⟨RX9, "store", "(III)I"⟩
abbrev cX9_removeOfAge : ByteArray := prog_11_method_4_code
def yX9_removeOfAge : MethodName := ⟨RX9, "removeOfAge", "(III)I"⟩
abbrev cX9_removeOldest : ByteArray := prog_11_method_5_code
def yX9_removeOldest : MethodName := ⟨RX9, "removeOldest", "(II)I"⟩
abbrev cX9_measuresOfTheOldest : ByteArray := prog_11_method_6_code
def yX9_measuresOfTheOldest : MethodName := ⟨RX9, "measuresOfTheOldest", "(I)I"⟩
abbrev cX9_grow : ByteArray := prog_11_method_7_code
def yX9_grow : MethodName := ⟨RX9, "grow", "(II)I"⟩
def RX10 : String := "StoreRealm"
def TX10 : u_T := fun k => match k with
  | 0 => ("StoreRealm", "land", "LStoreRealm$Land;", true)
  | 1 => ("StoreRealm", "tally", "LStoreRealm$Tally;", true)
  | 2 => ("StoreRealm", "carriers", "LStoreRealm$Carriers;", true)
  | 3 => ("StoreRealm", "tape", "[B", true)
  | 4 => ("StoreRealm", "tapeLength", "I", false)
  | 5 => ("StoreRealm", "book", "LStoreRealm$OrderBook;", true)
  | 6 => ("StoreRealm", "feasts", "LStoreRealm$Feasts;", true)
  | 7 => ("StoreRealm", "planner", "LStoreRealm$Planner;", true)
  | _ => ("StoreRealm", "ledger", "LStoreRealm$Ledger;", true)
def tyX10 : Nat → FieldType := fun k => match k with
  | 0 => .object "StoreRealm$Land"
  | 1 => .object "StoreRealm$Tally"
  | 2 => .object "StoreRealm$Carriers"
  | 3 => .array .byte
  | 4 => .int
  | 5 => .object "StoreRealm$OrderBook"
  | 6 => .object "StoreRealm$Feasts"
  | 7 => .object "StoreRealm$Planner"
  | _ => .object "StoreRealm$Ledger"
theorem nmX10 : ∀ a, a < 9 → ∀ b, b < 9 → a ≠ b → (TX10 a).2.1 ≠ (TX10 b).2.1 := by decide +kernel
theorem tyX10_ok : ∀ k, k < 9 → parseFieldDescriptor (TX10 k).2.2.1 = some (tyX10 k) := by decide +kernel
abbrev cX10_init : ByteArray := prog_1_method_1_code
def yX10_init : MethodName := ⟨RX10, "<init>", "()V"⟩
abbrev cX10_town : ByteArray := prog_1_method_2_code
def yX10_town : MethodName := ⟨RX10, "town", "(III)I"⟩
abbrev cX10_way : ByteArray := prog_1_method_3_code
def yX10_way : MethodName := ⟨RX10, "way", "(III)Z"⟩
abbrev cX10_keeps : ByteArray := prog_1_method_4_code
def yX10_keeps : MethodName := ⟨RX10, "keeps", "(II)Z"⟩
abbrev cX10_put : ByteArray := prog_1_method_5_code
def yX10_put : MethodName := ⟨RX10, "put", "(IIII)I"⟩
abbrev cX10_take : ByteArray := prog_1_method_6_code
def yX10_take : MethodName := ⟨RX10, "take", "(III)I"⟩
abbrev cX10_stock : ByteArray := prog_1_method_7_code
def yX10_stock : MethodName := ⟨RX10, "stock", "(III)I"⟩
abbrev cX10_feed : ByteArray := prog_1_method_8_code
def yX10_feed : MethodName := ⟨RX10, "feed", "(IIIII)I"⟩
abbrev cX10_end : ByteArray := prog_1_method_9_code
def yX10_end : MethodName := ⟨RX10, "end", "(I)I"⟩
abbrev cX10_orders : ByteArray := prog_1_method_10_code
def yX10_orders : MethodName := ⟨RX10, "orders", "()I"⟩
abbrev cX10_fault : ByteArray := prog_1_method_11_code
def yX10_fault : MethodName := ⟨RX10, "fault", "(I)I"⟩
abbrev cX10_months : ByteArray := prog_1_method_12_code
def yX10_months : MethodName := ⟨RX10, "months", "(I)I"⟩
abbrev cX10_sum : ByteArray := prog_1_method_13_code
def yX10_sum : MethodName := ⟨RX10, "sum", "(I)I"⟩
abbrev cX10_feast : ByteArray := prog_1_method_14_code
def yX10_feast : MethodName := ⟨RX10, "feast", "(IIII)I"⟩
abbrev cX10_cancel : ByteArray := prog_1_method_15_code
def yX10_cancel : MethodName := ⟨RX10, "cancel", "()Z"⟩
abbrev cX10_fed : ByteArray := prog_1_method_16_code
def yX10_fed : MethodName := ⟨RX10, "fed", "()I"⟩
abbrev cX10_carried : ByteArray := prog_1_method_17_code
def yX10_carried : MethodName := ⟨RX10, "carried", "()I"⟩
abbrev cX10_call : ByteArray := prog_1_method_18_code
def yX10_call : MethodName := ⟨RX10, "call", "(I)I"⟩
abbrev cX10_gave : ByteArray := prog_1_method_19_code
def yX10_gave : MethodName := ⟨RX10, "gave", "(I)I"⟩
abbrev cX10_tell : ByteArray := prog_1_method_20_code
def yX10_tell : MethodName := ⟨RX10, "tell", "(IIIII)I"⟩
abbrev cX10_untell : ByteArray := prog_1_method_21_code
def yX10_untell : MethodName := ⟨RX10, "untell", "(I)Z"⟩
abbrev cX10_count : ByteArray := prog_1_method_22_code
def yX10_count : MethodName := ⟨RX10, "count", "(IIII)I"⟩
abbrev cX10_agree : ByteArray := prog_1_method_23_code
def yX10_agree : MethodName := ⟨RX10, "agree", "(IIII)I"⟩
abbrev cX10_of : ByteArray := prog_1_method_24_code
def yX10_of : MethodName := ⟨RX10, "of", "(II)I"⟩
abbrev cX10_about : ByteArray := prog_1_method_25_code
def yX10_about : MethodName := ⟨RX10, "about", "(I)I"⟩
abbrev cX10_write : ByteArray := prog_1_method_26_code
def yX10_write : MethodName := ⟨RX10, "write", "(I)V"⟩
abbrev cX10_passMonth : ByteArray := prog_1_method_27_code
def yX10_passMonth : MethodName := ⟨RX10, "passMonth", "()V"⟩
abbrev cX10_obey : ByteArray := prog_1_method_28_code
def yX10_obey : MethodName := ⟨RX10, "obey", "(LStoreRealm$Orders;I)V"⟩
abbrev cX10_within : ByteArray := prog_1_method_29_code
def yX10_within : MethodName := ⟨RX10, "within", "(III)Z"⟩
abbrev cX10_isKind : ByteArray := prog_1_method_30_code
def yX10_isKind : MethodName := ⟨RX10, "isKind", "(I)Z"⟩
abbrev cX10_subject : ByteArray := prog_1_method_31_code
def yX10_subject : MethodName := ⟨RX10, "subject", "(II)I"⟩
abbrev cX10_monthsOnTheWay : ByteArray := prog_1_method_32_code
def yX10_monthsOnTheWay : MethodName := ⟨RX10, "monthsOnTheWay", "(I)I"⟩
def RX11 : String := "StoreRealmModel"
def TX11 : u_T := fun k => match k with
  | 0 => ("StoreRealmModel", "room", "[I", true)
  | 1 => ("StoreRealmModel", "people", "[I", true)
  | 2 => ("StoreRealmModel", "tens", "[I", true)
  | 3 => ("StoreRealmModel", "days", "[I", true)
  | 4 => ("StoreRealmModel", "keeps", "[I", true)
  | 5 => ("StoreRealmModel", "lots", "[I", true)
  | 6 => ("StoreRealmModel", "sums", "[I", true)
  | 7 => ("StoreRealmModel", "towns", "I", false)
  | 8 => ("StoreRealmModel", "month", "I", false)
  | 9 => ("StoreRealmModel", "tape", "[B", true)
  | 10 => ("StoreRealmModel", "text", "[B", true)
  | 11 => ("StoreRealmModel", "taped", "I", false)
  | 12 => ("StoreRealmModel", "size", "I", false)
  | 13 => ("StoreRealmModel", "faultKind", "I", false)
  | 14 => ("StoreRealmModel", "faultPlace", "I", false)
  | 15 => ("StoreRealmModel", "at", "I", false)
  | 16 => ("StoreRealmModel", "end", "I", false)
  | 17 => ("StoreRealmModel", "token", "I", false)
  | 18 => ("StoreRealmModel", "number", "I", false)
  | 19 => ("StoreRealmModel", "name", "J", false)
  | 20 => ("StoreRealmModel", "lineMany", "[I", true)
  | 21 => ("StoreRealmModel", "lFrom", "[I", true)
  | 22 => ("StoreRealmModel", "lTo", "[I", true)
  | 23 => ("StoreRealmModel", "lMeasures", "[I", true)
  | 24 => ("StoreRealmModel", "lKind", "[I", true)
  | 25 => ("StoreRealmModel", "lOut", "[I", true)
  | 26 => ("StoreRealmModel", "lIn", "[I", true)
  | 27 => ("StoreRealmModel", "code", "[I", true)
  | 28 => ("StoreRealmModel", "codeNumber", "[I", true)
  | 29 => ("StoreRealmModel", "codeKind", "[I", true)
  | 30 => ("StoreRealmModel", "bank", "I", false)
  | 31 => ("StoreRealmModel", "rb", "I", false)
  | 32 => ("StoreRealmModel", "codes", "I", false)
  | 33 => ("StoreRealmModel", "terms", "I", false)
  | 34 => ("StoreRealmModel", "eWhat", "[I", true)
  | 35 => ("StoreRealmModel", "piled", "I", false)
  | 36 => ("StoreRealmModel", "deep", "I", false)
  | 37 => ("StoreRealmModel", "values", "[I", true)
  | 38 => ("StoreRealmModel", "wTown", "[I", true)
  | 39 => ("StoreRealmModel", "wKind", "[I", true)
  | 40 => ("StoreRealmModel", "wAge", "[I", true)
  | 41 => ("StoreRealmModel", "wMeasures", "[I", true)
  | 42 => ("StoreRealmModel", "wComes", "[I", true)
  | 43 => ("StoreRealmModel", "loads", "I", false)
  | 44 => ("StoreRealmModel", "fTown", "[I", true)
  | 45 => ("StoreRealmModel", "fMonth", "[I", true)
  | 46 => ("StoreRealmModel", "fKind", "[I", true)
  | 47 => ("StoreRealmModel", "fMeasures", "[I", true)
  | 48 => ("StoreRealmModel", "left", "[I", true)
  | 49 => ("StoreRealmModel", "gave", "[I", true)
  | 50 => ("StoreRealmModel", "open", "[I", true)
  | 51 => ("StoreRealmModel", "farLot", "[I", true)
  | 52 => ("StoreRealmModel", "farFeast", "[I", true)
  | 53 => ("StoreRealmModel", "byFeast", "[I", true)
  | 54 => ("StoreRealmModel", "byLot", "[I", true)
  | 55 => ("StoreRealmModel", "feasts", "I", false)
  | 56 => ("StoreRealmModel", "fedAll", "I", false)
  | 57 => ("StoreRealmModel", "carriedAll", "I", false)
  | 58 => ("StoreRealmModel", "handsOf", "[I", true)
  | 59 => ("StoreRealmModel", "handsAll", "I", false)
  | 60 => ("StoreRealmModel", "cKeeper", "[I", true)
  | 61 => ("StoreRealmModel", "cTown", "[I", true)
  | 62 => ("StoreRealmModel", "cKind", "[I", true)
  | 63 => ("StoreRealmModel", "cMonth", "[I", true)
  | 64 => ("StoreRealmModel", "cCount", "[I", true)
  | 65 => ("StoreRealmModel", "cTold", "[I", true)
  | 66 => ("StoreRealmModel", "cUntold", "[I", true)
  | 67 => ("StoreRealmModel", "speaks", "[I", true)
  | 68 => ("StoreRealmModel", "counts", "I", false)
  | _ => ("StoreRealmModel", "agreed", "I", false)
def tyX11 : Nat → FieldType := fun k => match k with
  | 0 => .array .int
  | 1 => .array .int
  | 2 => .array .int
  | 3 => .array .int
  | 4 => .array .int
  | 5 => .array .int
  | 6 => .array .int
  | 7 => .int
  | 8 => .int
  | 9 => .array .byte
  | 10 => .array .byte
  | 11 => .int
  | 12 => .int
  | 13 => .int
  | 14 => .int
  | 15 => .int
  | 16 => .int
  | 17 => .int
  | 18 => .int
  | 19 => .long
  | 20 => .array .int
  | 21 => .array .int
  | 22 => .array .int
  | 23 => .array .int
  | 24 => .array .int
  | 25 => .array .int
  | 26 => .array .int
  | 27 => .array .int
  | 28 => .array .int
  | 29 => .array .int
  | 30 => .int
  | 31 => .int
  | 32 => .int
  | 33 => .int
  | 34 => .array .int
  | 35 => .int
  | 36 => .int
  | 37 => .array .int
  | 38 => .array .int
  | 39 => .array .int
  | 40 => .array .int
  | 41 => .array .int
  | 42 => .array .int
  | 43 => .int
  | 44 => .array .int
  | 45 => .array .int
  | 46 => .array .int
  | 47 => .array .int
  | 48 => .array .int
  | 49 => .array .int
  | 50 => .array .int
  | 51 => .array .int
  | 52 => .array .int
  | 53 => .array .int
  | 54 => .array .int
  | 55 => .int
  | 56 => .int
  | 57 => .int
  | 58 => .array .int
  | 59 => .int
  | 60 => .array .int
  | 61 => .array .int
  | 62 => .array .int
  | 63 => .array .int
  | 64 => .array .int
  | 65 => .array .int
  | 66 => .array .int
  | 67 => .array .int
  | 68 => .int
  | _ => .int
theorem nmX11 : ∀ a, a < 70 → ∀ b, b < 70 → a ≠ b → (TX11 a).2.1 ≠ (TX11 b).2.1 := by decide +kernel
theorem tyX11_ok : ∀ k, k < 70 → parseFieldDescriptor (TX11 k).2.2.1 = some (tyX11 k) := by decide +kernel
abbrev cX11_init : ByteArray := prog_13_method_1_code
def yX11_init : MethodName := ⟨RX11, "<init>", "()V"⟩
abbrev cX11_isTown : ByteArray := prog_13_method_2_code
def yX11_isTown : MethodName := ⟨RX11, "isTown", "(I)Z"⟩
abbrev cX11_isKind : ByteArray := prog_13_method_3_code
def yX11_isKind : MethodName := ⟨RX11, "isKind", "(I)Z"⟩
abbrev cX11_lot : ByteArray := prog_13_method_4_code
def yX11_lot : MethodName := ⟨RX11, "lot", "(III)I"⟩
abbrev cX11_town : ByteArray := prog_13_method_5_code
def yX11_town : MethodName := ⟨RX11, "town", "(III)I"⟩
abbrev cX11_way : ByteArray := prog_13_method_6_code
def yX11_way : MethodName := ⟨RX11, "way", "(III)Z"⟩
abbrev cX11_keeps : ByteArray := prog_13_method_7_code
def yX11_keeps : MethodName := ⟨RX11, "keeps", "(II)Z"⟩
abbrev cX11_inStore : ByteArray := prog_13_method_8_code
def yX11_inStore : MethodName := ⟨RX11, "inStore", "(I)I"⟩
abbrev cX11_space : ByteArray := prog_13_method_9_code
def yX11_space : MethodName := ⟨RX11, "space", "(I)I"⟩
abbrev cX11_comeIn : ByteArray := prog_13_method_10_code
def yX11_comeIn : MethodName := ⟨RX11, "comeIn", "(IIII)I"⟩
abbrev cX11_areMeasures : ByteArray := prog_13_method_11_code
def yX11_areMeasures : MethodName := ⟨RX11, "areMeasures", "(I)Z"⟩
abbrev cX11_put : ByteArray := prog_13_method_12_code
def yX11_put : MethodName := ⟨RX11, "put", "(IIII)I"⟩
abbrev cX11_goOut : ByteArray := prog_13_method_13_code
def yX11_goOut : MethodName := ⟨RX11, "goOut", "(III)I"⟩
abbrev cX11_take : ByteArray := prog_13_method_14_code
def yX11_take : MethodName := ⟨RX11, "take", "(III)I"⟩
abbrev cX11_stockOf : ByteArray := prog_13_method_15_code
def yX11_stockOf : MethodName := ⟨RX11, "stockOf", "(II)I"⟩
abbrev cX11_stock : ByteArray := prog_13_method_16_code
def yX11_stock : MethodName := ⟨RX11, "stock", "(III)I"⟩
abbrev cX11_oldOf : ByteArray := prog_13_method_17_code
def yX11_oldOf : MethodName := ⟨RX11, "oldOf", "(II)I"⟩
abbrev cX11_sign : ByteArray := prog_13_method_18_code
def yX11_sign : MethodName := ⟨RX11, "sign", "(I)I"⟩
abbrev cX11_isLetter : ByteArray := prog_13_method_19_code
def yX11_isLetter : MethodName := ⟨RX11, "isLetter", "(I)Z"⟩
abbrev cX11_isDigit : ByteArray := prog_13_method_20_code
def yX11_isDigit : MethodName := ⟨RX11, "isDigit", "(I)Z"⟩
abbrev cX11_fails : ByteArray := prog_13_method_21_code
def yX11_fails : MethodName := ⟨RX11, "fails", "(II)V"⟩
abbrev cX11_isGood : ByteArray := prog_13_method_22_code
def yX11_isGood : MethodName := ⟨RX11, "isGood", "()Z"⟩
abbrev cX11_next : ByteArray := prog_13_method_23_code
def yX11_next : MethodName := ⟨RX11, "next", "()V"⟩
abbrev cX11_is : ByteArray := prog_13_method_24_code
def yX11_is : MethodName := ⟨RX11, "is", "(I)Z"⟩
abbrev cX11_isWord : ByteArray := prog_13_method_25_code
def yX11_isWord : MethodName := ⟨RX11, "isWord", "(J)Z"⟩
abbrev cX11_wrong : ByteArray := prog_13_method_26_code
def yX11_wrong : MethodName := ⟨RX11, "wrong", "()V"⟩
abbrev cX11_must : ByteArray := prog_13_method_27_code
def yX11_must : MethodName := ⟨RX11, "must", "(Z)V"⟩
abbrev cX11_kindHere : ByteArray := prog_13_method_28_code
def yX11_kindHere : MethodName := ⟨RX11, "kindHere", "()I"⟩
abbrev cX11_aKind : ByteArray := prog_13_method_29_code
def yX11_aKind : MethodName := ⟨RX11, "aKind", "()I"⟩
abbrev cX11_aNumber : ByteArray := prog_13_method_30_code
def yX11_aNumber : MethodName := ⟨RX11, "aNumber", "(I)I"⟩
abbrev cX11_orders : ByteArray := prog_13_method_31_code
def yX11_orders : MethodName := ⟨RX11, "orders", "()I"⟩
abbrev cX11_readLine : ByteArray := prog_13_method_32_code
def yX11_readLine : MethodName := ⟨RX11, "readLine", "()V"⟩
abbrev cX11_step : ByteArray := prog_13_method_33_code
def yX11_step : MethodName := ⟨RX11, "step", "(III)V"⟩
abbrev cX11_pile : ByteArray := prog_13_method_34_code
def yX11_pile : MethodName := ⟨RX11, "pile", "(I)V"⟩
abbrev cX11_e : ByteArray := prog_13_method_35_code
def yX11_e : MethodName := ⟨RX11, "e", "()V"⟩
abbrev cX11_one : ByteArray := prog_13_method_36_code
def yX11_one : MethodName := ⟨RX11, "one", "()Z"⟩
abbrev cX11_readSum : ByteArray := prog_13_method_37_code
def yX11_readSum : MethodName := ⟨RX11, "readSum", "()V"⟩
abbrev cX11_term : ByteArray := prog_13_method_38_code
def yX11_term : MethodName := ⟨RX11, "term", "()V"⟩
abbrev cX11_behind : ByteArray := prog_13_method_39_code
def yX11_behind : MethodName := ⟨RX11, "behind", "()Z"⟩
abbrev cX11_fault : ByteArray := prog_13_method_40_code
def yX11_fault : MethodName := ⟨RX11, "fault", "(I)I"⟩
abbrev cX11_leaf : ByteArray := prog_13_method_41_code
def yX11_leaf : MethodName := ⟨RX11, "leaf", "(III)I"⟩
abbrev cX11_two : ByteArray := prog_13_method_42_code
def yX11_two : MethodName := ⟨RX11, "two", "(III)I"⟩
abbrev cX11_holds : ByteArray := prog_13_method_43_code
def yX11_holds : MethodName := ⟨RX11, "holds", "(I)Z"⟩
abbrev cX11_monthsFor : ByteArray := prog_13_method_44_code
def yX11_monthsFor : MethodName := ⟨RX11, "monthsFor", "(I)I"⟩
abbrev cX11_arrive : ByteArray := prog_13_method_45_code
def yX11_arrive : MethodName := ⟨RX11, "arrive", "()V"⟩
abbrev cX11_age : ByteArray := prog_13_method_46_code
def yX11_age : MethodName := ⟨RX11, "age", "()V"⟩
abbrev cX11_eat : ByteArray := prog_13_method_47_code
def yX11_eat : MethodName := ⟨RX11, "eat", "()V"⟩
abbrev cX11_send : ByteArray := prog_13_method_48_code
def yX11_send : MethodName := ⟨RX11, "send", "(I)V"⟩
abbrev cX11_months : ByteArray := prog_13_method_49_code
def yX11_months : MethodName := ⟨RX11, "months", "(I)I"⟩
abbrev cX11_sum : ByteArray := prog_13_method_50_code
def yX11_sum : MethodName := ⟨RX11, "sum", "(I)I"⟩
abbrev cX11_feast : ByteArray := prog_13_method_51_code
def yX11_feast : MethodName := ⟨RX11, "feast", "(IIII)I"⟩
abbrev cX11_cancel : ByteArray := prog_13_method_52_code
def yX11_cancel : MethodName := ⟨RX11, "cancel", "()Z"⟩
abbrev cX11_canGo : ByteArray := prog_13_method_53_code
def yX11_canGo : MethodName := ⟨RX11, "canGo", "(II)Z"⟩
abbrev cX11_daysOf : ByteArray := prog_13_method_54_code
def yX11_daysOf : MethodName := ⟨RX11, "daysOf", "(II)I"⟩
abbrev cX11_feedAll : ByteArray := prog_13_method_55_code
def yX11_feedAll : MethodName := ⟨RX11, "feedAll", "()V"⟩
abbrev cX11_measure : ByteArray := prog_13_method_56_code
def yX11_measure : MethodName := ⟨RX11, "measure", "(I)V"⟩
abbrev cX11_nearer : ByteArray := prog_13_method_57_code
def yX11_nearer : MethodName := ⟨RX11, "nearer", "(I)Z"⟩
abbrev cX11_giveMore : ByteArray := prog_13_method_58_code
def yX11_giveMore : MethodName := ⟨RX11, "giveMore", "(I)Z"⟩
abbrev cX11_fed : ByteArray := prog_13_method_59_code
def yX11_fed : MethodName := ⟨RX11, "fed", "()I"⟩
abbrev cX11_carried : ByteArray := prog_13_method_60_code
def yX11_carried : MethodName := ⟨RX11, "carried", "()I"⟩
abbrev cX11_call : ByteArray := prog_13_method_61_code
def yX11_call : MethodName := ⟨RX11, "call", "(I)I"⟩
abbrev cX11_lacks : ByteArray := prog_13_method_62_code
def yX11_lacks : MethodName := ⟨RX11, "lacks", "(II)I"⟩
abbrev cX11_gave : ByteArray := prog_13_method_63_code
def yX11_gave : MethodName := ⟨RX11, "gave", "(I)I"⟩
abbrev cX11_tell : ByteArray := prog_13_method_64_code
def yX11_tell : MethodName := ⟨RX11, "tell", "(IIIII)I"⟩
abbrev cX11_untell : ByteArray := prog_13_method_65_code
def yX11_untell : MethodName := ⟨RX11, "untell", "(I)Z"⟩
abbrev cX11_count : ByteArray := prog_13_method_66_code
def yX11_count : MethodName := ⟨RX11, "count", "(IIII)I"⟩
abbrev cX11_agree : ByteArray := prog_13_method_67_code
def yX11_agree : MethodName := ⟨RX11, "agree", "(IIII)I"⟩
abbrev cX11_of : ByteArray := prog_13_method_68_code
def yX11_of : MethodName := ⟨RX11, "of", "(II)I"⟩
abbrev cX11_about : ByteArray := prog_13_method_69_code
def yX11_about : MethodName := ⟨RX11, "about", "(I)I"⟩
abbrev cX11_feed : ByteArray := prog_13_method_70_code
def yX11_feed : MethodName := ⟨RX11, "feed", "(IIIII)I"⟩
abbrev cX11_end : ByteArray := prog_13_method_71_code
def yX11_end : MethodName := ⟨RX11, "end", "(I)I"⟩
def RJ9 : String := "java/lang/Math"
abbrev cJ9_min_7cf53 : ByteArray := prog_14_method_69_code
def yJ9_min_7cf53 : MethodName := ⟨RJ9, "min", "(II)I"⟩
def RJ0 : String := "java/lang/String"
abbrev cJ0_length_8abf5 : ByteArray := prog_15_method_54_code
def yJ0_length_8abf5 : MethodName := ⟨RJ0, "length", "()I"⟩
abbrev cJ0_charAt_5068e : ByteArray := prog_15_method_56_code
def yJ0_charAt_5068e : MethodName := ⟨RJ0, "charAt", "(I)C"⟩
abbrev cJ0_coder_7d493 : ByteArray := prog_15_method_152_code
def yJ0_coder_7d493 : MethodName := ⟨RJ0, "coder", "()B"⟩
abbrev cJ0_isLatin1_aae02 : ByteArray := prog_15_method_154_code
def yJ0_isLatin1_aae02 : MethodName := ⟨RJ0, "isLatin1", "()Z"⟩
abbrev cJ0_checkIndex_df160 : ByteArray := prog_15_method_155_code
def yJ0_checkIndex_df160 : MethodName := ⟨RJ0, "checkIndex", "(II)V"⟩
def RJ1 : String := "java/lang/StringLatin1"
abbrev cJ1_charAt_3b067 : ByteArray := prog_16_method_2_code
def yJ1_charAt_3b067 : MethodName := ⟨RJ1, "charAt", "([BI)C"⟩
def RJ2 : String := "java/lang/StringUTF16"
abbrev cJ2_getChar_3b067 : ByteArray := prog_17_method_5_code
def yJ2_getChar_3b067 : MethodName := ⟨RJ2, "getChar", "([BI)C"⟩
abbrev cJ2_length_9d52b : ByteArray := prog_17_method_6_code
def yJ2_length_9d52b : MethodName := ⟨RJ2, "length", "([B)I"⟩
abbrev cJ2_charAt_3b067 : ByteArray := prog_17_method_83_code
def yJ2_charAt_3b067 : MethodName := ⟨RJ2, "charAt", "([BI)C"⟩
abbrev cJ2_checkIndex_2214a : ByteArray := prog_17_method_91_code
def yJ2_checkIndex_2214a : MethodName := ⟨RJ2, "checkIndex", "(I[B)V"⟩
def RJ7 : String := "java/util/Arrays"
abbrev cJ7_fill_53178 : ByteArray := prog_18_method_103_code
def yJ7_fill_53178 : MethodName := ⟨RJ7, "fill", "([II)V"⟩
def RJ3 : String := "jdk/internal/util/Preconditions"
abbrev cJ3_checkIndex_8e157 : ByteArray := prog_19_method_11_code
def yJ3_checkIndex_8e157 : MethodName := ⟨RJ3, "checkIndex", "(IILjava/util/function/BiFunction;)I"⟩
def RL : String := "StoreRealmLaw"
abbrev cL_law : ByteArray := code
def yL_law : MethodName := ⟨RL, "law", "([I)Z"⟩
abbrev vwCl : List vw_C := [(RX0, TX0, 6), (RX1, TX1, 5), (RX2, TX2, 6), (RX3, TX3, 10), (RX4, TX4, 8), (RX5, TX5, 9), (RX6, TX6, 17), (RX7, TX7, 4), (RX8, TX8, 4), (RX9, TX9, 6), (RX10, TX10, 9), (RX11, TX11, 70)]
end
section
abbrev kM : Nat := 0
abbrev kS : Nat := 1
abbrev kLand : Nat := 2
abbrev kTown : Nat := 3
abbrev kTally : Nat := 4
abbrev kCarriers : Nat := 5
abbrev kOrderBook : Nat := 6
abbrev kOrders : Nat := 7
abbrev kTokens : Nat := 8
abbrev kFeasts : Nat := 9
abbrev kPlanner : Nat := 10
abbrev kLedger : Nat := 11
abbrev kM_room : Nat := 12
abbrev kM_people : Nat := 13
abbrev kM_tens : Nat := 14
abbrev kM_days : Nat := 15
abbrev kM_keeps : Nat := 16
abbrev kM_lots : Nat := 17
abbrev kM_sums : Nat := 18
abbrev kM_tape : Nat := 19
abbrev kM_text : Nat := 20
abbrev kM_lineMany : Nat := 21
abbrev kM_lFrom : Nat := 22
abbrev kM_lTo : Nat := 23
abbrev kM_lMeasures : Nat := 24
abbrev kM_lKind : Nat := 25
abbrev kM_lOut : Nat := 26
abbrev kM_lIn : Nat := 27
abbrev kM_code : Nat := 28
abbrev kM_codeNumber : Nat := 29
abbrev kM_codeKind : Nat := 30
abbrev kM_eWhat : Nat := 31
abbrev kM_values : Nat := 32
abbrev kM_wTown : Nat := 33
abbrev kM_wKind : Nat := 34
abbrev kM_wAge : Nat := 35
abbrev kM_wMeasures : Nat := 36
abbrev kM_wComes : Nat := 37
abbrev kM_fTown : Nat := 38
abbrev kM_fMonth : Nat := 39
abbrev kM_fKind : Nat := 40
abbrev kM_fMeasures : Nat := 41
abbrev kM_left : Nat := 42
abbrev kM_gave : Nat := 43
abbrev kM_open : Nat := 44
abbrev kM_farLot : Nat := 45
abbrev kM_farFeast : Nat := 46
abbrev kM_byFeast : Nat := 47
abbrev kM_byLot : Nat := 48
abbrev kM_handsOf : Nat := 49
abbrev kM_cKeeper : Nat := 50
abbrev kM_cTown : Nat := 51
abbrev kM_cKind : Nat := 52
abbrev kM_cMonth : Nat := 53
abbrev kM_cCount : Nat := 54
abbrev kM_cTold : Nat := 55
abbrev kM_cUntold : Nat := 56
abbrev kM_speaks : Nat := 57
abbrev kS_tape : Nat := 58
abbrev kLand_towns : Nat := 59
abbrev kLand_days : Nat := 60
abbrev kDaysRow : Nat := 61
abbrev kLand_keeping : Nat := 62
abbrev kTown_held : Nat := 63
abbrev kTown_lots : Nat := 64
abbrev kLots : Nat := 65
abbrev kCarriers_to : Nat := 66
abbrev kCarriers_kind : Nat := 67
abbrev kCarriers_age : Nat := 68
abbrev kCarriers_measures : Nat := 69
abbrev kCarriers_arrival : Nat := 70
abbrev kOrders_steps : Nat := 71
abbrev kOrders_open : Nat := 72
abbrev kOrders_stepsStop : Nat := 73
abbrev kOrders_measures : Nat := 74
abbrev kOrders_kind : Nat := 75
abbrev kOrders_from : Nat := 76
abbrev kOrders_to : Nat := 77
abbrev kTokens_what : Nat := 78
abbrev kTokens_value : Nat := 79
abbrev kTokens_place : Nat := 80
abbrev kFeasts_town : Nat := 81
abbrev kFeasts_month : Nat := 82
abbrev kFeasts_kind : Nat := 83
abbrev kFeasts_measures : Nat := 84
abbrev kPlanner_feastTown : Nat := 85
abbrev kPlanner_feastMonth : Nat := 86
abbrev kPlanner_oldestServing : Nat := 87
abbrev kPlanner_wanting : Nat := 88
abbrev kPlanner_feastCost : Nat := 89
abbrev kPlanner_feastFrom : Nat := 90
abbrev kPlanner_pileTown : Nat := 91
abbrev kPlanner_pileAge : Nat := 92
abbrev kPlanner_left : Nat := 93
abbrev kPlanner_pileCost : Nat := 94
abbrev kPlanner_pileFrom : Nat := 95
abbrev kPlanner_days : Nat := 96
abbrev kPlanner_given : Nat := 97
abbrev kLedger_keeper : Nat := 98
abbrev kLedger_subject : Nat := 99
abbrev kLedger_month : Nat := 100
abbrev kLedger_amount : Nat := 101
abbrev kLedger_toldIn : Nat := 102
abbrev kLedger_untoldIn : Nat := 103
abbrev kLedger_voice : Nat := 104
abbrev kStr : Nat := 105
abbrev kStrV : Nat := 106
abbrev sh_NK : Nat := 105
def sh_cnt (k : Nat) : Nat := (cond (Nat.blt k 53) (cond (Nat.blt k 26) (cond (Nat.blt k 13) (cond (Nat.blt k 6) (cond (Nat.blt k 3) (cond (Nat.blt k 1) 1 (cond (Nat.blt k 2) 1 1)) (cond (Nat.blt k 4) 8 (cond (Nat.blt k 5) 1 1))) (cond (Nat.blt k 9) (cond (Nat.blt k 7) 1 (cond (Nat.blt k 8) 2 1)) (cond (Nat.blt k 11) (cond (Nat.blt k 10) 1 1) (cond (Nat.blt k 12) 1 1)))) (cond (Nat.blt k 19) (cond (Nat.blt k 16) (cond (Nat.blt k 14) 1 (cond (Nat.blt k 15) 1 1)) (cond (Nat.blt k 17) 1 (cond (Nat.blt k 18) 1 1))) (cond (Nat.blt k 22) (cond (Nat.blt k 20) 1 (cond (Nat.blt k 21) 1 1)) (cond (Nat.blt k 24) (cond (Nat.blt k 23) 1 1) (cond (Nat.blt k 25) 1 1))))) (cond (Nat.blt k 39) (cond (Nat.blt k 32) (cond (Nat.blt k 29) (cond (Nat.blt k 27) 1 (cond (Nat.blt k 28) 1 1)) (cond (Nat.blt k 30) 1 (cond (Nat.blt k 31) 1 1))) (cond (Nat.blt k 35) (cond (Nat.blt k 33) 1 (cond (Nat.blt k 34) 1 1)) (cond (Nat.blt k 37) (cond (Nat.blt k 36) 1 1) (cond (Nat.blt k 38) 1 1)))) (cond (Nat.blt k 46) (cond (Nat.blt k 42) (cond (Nat.blt k 40) 1 (cond (Nat.blt k 41) 1 1)) (cond (Nat.blt k 44) (cond (Nat.blt k 43) 1 1) (cond (Nat.blt k 45) 1 1))) (cond (Nat.blt k 49) (cond (Nat.blt k 47) 1 (cond (Nat.blt k 48) 1 1)) (cond (Nat.blt k 51) (cond (Nat.blt k 50) 1 1) (cond (Nat.blt k 52) 1 1)))))) (cond (Nat.blt k 79) (cond (Nat.blt k 66) (cond (Nat.blt k 59) (cond (Nat.blt k 56) (cond (Nat.blt k 54) 1 (cond (Nat.blt k 55) 1 1)) (cond (Nat.blt k 57) 1 (cond (Nat.blt k 58) 1 1))) (cond (Nat.blt k 62) (cond (Nat.blt k 60) 1 (cond (Nat.blt k 61) 1 8)) (cond (Nat.blt k 64) (cond (Nat.blt k 63) 1 8) (cond (Nat.blt k 65) 8 24)))) (cond (Nat.blt k 72) (cond (Nat.blt k 69) (cond (Nat.blt k 67) 1 (cond (Nat.blt k 68) 1 1)) (cond (Nat.blt k 70) 1 (cond (Nat.blt k 71) 1 2))) (cond (Nat.blt k 75) (cond (Nat.blt k 73) 2 (cond (Nat.blt k 74) 2 2)) (cond (Nat.blt k 77) (cond (Nat.blt k 76) 2 2) (cond (Nat.blt k 78) 2 1))))) (cond (Nat.blt k 92) (cond (Nat.blt k 85) (cond (Nat.blt k 82) (cond (Nat.blt k 80) 1 (cond (Nat.blt k 81) 1 1)) (cond (Nat.blt k 83) 1 (cond (Nat.blt k 84) 1 1))) (cond (Nat.blt k 88) (cond (Nat.blt k 86) 1 (cond (Nat.blt k 87) 1 1)) (cond (Nat.blt k 90) (cond (Nat.blt k 89) 1 1) (cond (Nat.blt k 91) 1 1)))) (cond (Nat.blt k 99) (cond (Nat.blt k 95) (cond (Nat.blt k 93) 1 (cond (Nat.blt k 94) 1 1)) (cond (Nat.blt k 97) (cond (Nat.blt k 96) 1 1) (cond (Nat.blt k 98) 1 1))) (cond (Nat.blt k 102) (cond (Nat.blt k 100) 1 (cond (Nat.blt k 101) 1 1)) (cond (Nat.blt k 104) (cond (Nat.blt k 103) 1 1) (cond (Nat.blt k 105) 1 0)))))))
def sh_obj (k : Nat) : Option Nat := (cond (Nat.blt k 53) (cond (Nat.blt k 26) (cond (Nat.blt k 13) (cond (Nat.blt k 6) (cond (Nat.blt k 3) (cond (Nat.blt k 1) (some 11) (cond (Nat.blt k 2) (some 10) (some 2))) (cond (Nat.blt k 4) (some 9) (cond (Nat.blt k 5) (some 7) (some 0)))) (cond (Nat.blt k 9) (cond (Nat.blt k 7) (some 4) (cond (Nat.blt k 8) (some 5) (some 8))) (cond (Nat.blt k 11) (cond (Nat.blt k 10) (some 1) (some 6)) (cond (Nat.blt k 12) (some 3) none)))) (cond (Nat.blt k 19) (cond (Nat.blt k 16) (cond (Nat.blt k 14) none (cond (Nat.blt k 15) none none)) (cond (Nat.blt k 17) none (cond (Nat.blt k 18) none none))) (cond (Nat.blt k 22) (cond (Nat.blt k 20) none (cond (Nat.blt k 21) none none)) (cond (Nat.blt k 24) (cond (Nat.blt k 23) none none) (cond (Nat.blt k 25) none none))))) (cond (Nat.blt k 39) (cond (Nat.blt k 32) (cond (Nat.blt k 29) (cond (Nat.blt k 27) none (cond (Nat.blt k 28) none none)) (cond (Nat.blt k 30) none (cond (Nat.blt k 31) none none))) (cond (Nat.blt k 35) (cond (Nat.blt k 33) none (cond (Nat.blt k 34) none none)) (cond (Nat.blt k 37) (cond (Nat.blt k 36) none none) (cond (Nat.blt k 38) none none)))) (cond (Nat.blt k 46) (cond (Nat.blt k 42) (cond (Nat.blt k 40) none (cond (Nat.blt k 41) none none)) (cond (Nat.blt k 44) (cond (Nat.blt k 43) none none) (cond (Nat.blt k 45) none none))) (cond (Nat.blt k 49) (cond (Nat.blt k 47) none (cond (Nat.blt k 48) none none)) (cond (Nat.blt k 51) (cond (Nat.blt k 50) none none) (cond (Nat.blt k 52) none none)))))) (cond (Nat.blt k 79) (cond (Nat.blt k 66) (cond (Nat.blt k 59) (cond (Nat.blt k 56) (cond (Nat.blt k 54) none (cond (Nat.blt k 55) none none)) (cond (Nat.blt k 57) none (cond (Nat.blt k 58) none none))) (cond (Nat.blt k 62) (cond (Nat.blt k 60) none (cond (Nat.blt k 61) none none)) (cond (Nat.blt k 64) (cond (Nat.blt k 63) none none) (cond (Nat.blt k 65) none none)))) (cond (Nat.blt k 72) (cond (Nat.blt k 69) (cond (Nat.blt k 67) none (cond (Nat.blt k 68) none none)) (cond (Nat.blt k 70) none (cond (Nat.blt k 71) none none))) (cond (Nat.blt k 75) (cond (Nat.blt k 73) none (cond (Nat.blt k 74) none none)) (cond (Nat.blt k 77) (cond (Nat.blt k 76) none none) (cond (Nat.blt k 78) none none))))) (cond (Nat.blt k 92) (cond (Nat.blt k 85) (cond (Nat.blt k 82) (cond (Nat.blt k 80) none (cond (Nat.blt k 81) none none)) (cond (Nat.blt k 83) none (cond (Nat.blt k 84) none none))) (cond (Nat.blt k 88) (cond (Nat.blt k 86) none (cond (Nat.blt k 87) none none)) (cond (Nat.blt k 90) (cond (Nat.blt k 89) none none) (cond (Nat.blt k 91) none none)))) (cond (Nat.blt k 99) (cond (Nat.blt k 95) (cond (Nat.blt k 93) none (cond (Nat.blt k 94) none none)) (cond (Nat.blt k 97) (cond (Nat.blt k 96) none none) (cond (Nat.blt k 98) none none))) (cond (Nat.blt k 102) (cond (Nat.blt k 100) none (cond (Nat.blt k 101) none none)) (cond (Nat.blt k 104) (cond (Nat.blt k 103) none none) (cond (Nat.blt k 105) none none)))))))
def sh_arr (k : Nat) : Option (Nat × Nat) := (cond (Nat.blt k 53) (cond (Nat.blt k 26) (cond (Nat.blt k 13) (cond (Nat.blt k 6) (cond (Nat.blt k 3) (cond (Nat.blt k 1) none (cond (Nat.blt k 2) none none)) (cond (Nat.blt k 4) none (cond (Nat.blt k 5) none none))) (cond (Nat.blt k 9) (cond (Nat.blt k 7) none (cond (Nat.blt k 8) none none)) (cond (Nat.blt k 11) (cond (Nat.blt k 10) none none) (cond (Nat.blt k 12) none (some (0, 8)))))) (cond (Nat.blt k 19) (cond (Nat.blt k 16) (cond (Nat.blt k 14) (some (0, 8)) (cond (Nat.blt k 15) (some (0, 8)) (some (0, 64)))) (cond (Nat.blt k 17) (some (0, 3)) (cond (Nat.blt k 18) (some (0, 1464)) (some (0, 6))))) (cond (Nat.blt k 22) (cond (Nat.blt k 20) (some (1, 1020)) (cond (Nat.blt k 21) (some (1, 1000)) (some (0, 2)))) (cond (Nat.blt k 24) (cond (Nat.blt k 23) (some (0, 24)) (some (0, 24))) (cond (Nat.blt k 25) (some (0, 24)) (some (0, 24))))))) (cond (Nat.blt k 39) (cond (Nat.blt k 32) (cond (Nat.blt k 29) (cond (Nat.blt k 27) (some (0, 24)) (cond (Nat.blt k 28) (some (0, 24)) (some (0, 2000)))) (cond (Nat.blt k 30) (some (0, 2000)) (cond (Nat.blt k 31) (some (0, 2000)) (some (0, 60))))) (cond (Nat.blt k 35) (cond (Nat.blt k 33) (some (0, 100)) (cond (Nat.blt k 34) (some (0, 60)) (some (0, 60)))) (cond (Nat.blt k 37) (cond (Nat.blt k 36) (some (0, 60)) (some (0, 60))) (cond (Nat.blt k 38) (some (0, 60)) (some (0, 10)))))) (cond (Nat.blt k 46) (cond (Nat.blt k 42) (cond (Nat.blt k 40) (some (0, 10)) (cond (Nat.blt k 41) (some (0, 10)) (some (0, 10)))) (cond (Nat.blt k 44) (cond (Nat.blt k 43) (some (0, 488)) (some (0, 4880))) (cond (Nat.blt k 45) (some (0, 10)) (some (0, 488))))) (cond (Nat.blt k 49) (cond (Nat.blt k 47) (some (0, 10)) (cond (Nat.blt k 48) (some (0, 488)) (some (0, 10)))) (cond (Nat.blt k 51) (cond (Nat.blt k 50) (some (0, 8)) (some (0, 60))) (cond (Nat.blt k 52) (some (0, 60)) (some (0, 60)))))))) (cond (Nat.blt k 79) (cond (Nat.blt k 66) (cond (Nat.blt k 59) (cond (Nat.blt k 56) (cond (Nat.blt k 54) (some (0, 60)) (cond (Nat.blt k 55) (some (0, 60)) (some (0, 60)))) (cond (Nat.blt k 57) (some (0, 60)) (cond (Nat.blt k 58) (some (0, 5)) (some (1, 1000))))) (cond (Nat.blt k 62) (cond (Nat.blt k 60) (some (3, 8)) (cond (Nat.blt k 61) (some (4, 8)) (some (0, 8)))) (cond (Nat.blt k 64) (cond (Nat.blt k 63) (some (0, 3)) (some (0, 3))) (cond (Nat.blt k 65) (some (4, 3)) (some (0, 61)))))) (cond (Nat.blt k 72) (cond (Nat.blt k 69) (cond (Nat.blt k 67) (some (0, 60)) (cond (Nat.blt k 68) (some (0, 60)) (some (0, 60)))) (cond (Nat.blt k 70) (some (0, 60)) (cond (Nat.blt k 71) (some (0, 60)) (some (0, 512))))) (cond (Nat.blt k 75) (cond (Nat.blt k 73) (some (0, 32)) (cond (Nat.blt k 74) (some (0, 12)) (some (0, 12)))) (cond (Nat.blt k 77) (cond (Nat.blt k 76) (some (0, 12)) (some (0, 12))) (cond (Nat.blt k 78) (some (0, 12)) (some (1, 1002))))))) (cond (Nat.blt k 92) (cond (Nat.blt k 85) (cond (Nat.blt k 82) (cond (Nat.blt k 80) (some (0, 1002)) (cond (Nat.blt k 81) (some (2, 1002)) (some (0, 10)))) (cond (Nat.blt k 83) (some (0, 10)) (cond (Nat.blt k 84) (some (0, 10)) (some (0, 10))))) (cond (Nat.blt k 88) (cond (Nat.blt k 86) (some (0, 10)) (cond (Nat.blt k 87) (some (0, 10)) (some (0, 10)))) (cond (Nat.blt k 90) (cond (Nat.blt k 89) (some (0, 10)) (some (0, 10))) (cond (Nat.blt k 91) (some (0, 10)) (some (0, 80)))))) (cond (Nat.blt k 99) (cond (Nat.blt k 95) (cond (Nat.blt k 93) (some (0, 80)) (cond (Nat.blt k 94) (some (0, 80)) (some (0, 80)))) (cond (Nat.blt k 97) (cond (Nat.blt k 96) (some (0, 80)) (some (0, 800))) (cond (Nat.blt k 98) (some (0, 800)) (some (0, 60))))) (cond (Nat.blt k 102) (cond (Nat.blt k 100) (some (0, 60)) (cond (Nat.blt k 101) (some (0, 60)) (some (0, 60)))) (cond (Nat.blt k 104) (cond (Nat.blt k 103) (some (0, 60)) (some (0, 60))) (cond (Nat.blt k 105) (some (0, 5)) none)))))))
def sh_rf (k i s : Nat) : Option (Nat × Nat) := (cond (Nat.blt k 53) (cond (Nat.blt k 26) (cond (Nat.blt k 13) (cond (Nat.blt k 6) (cond (Nat.blt k 3) (cond (Nat.blt k 1) (cond (Nat.blt s 35) (cond (Nat.blt s 17) (cond (Nat.blt s 8) (cond (Nat.blt s 4) (cond (Nat.blt s 2) (cond (Nat.blt s 1) (some (12, 0)) (some (13, 0))) (cond (Nat.blt s 3) (some (14, 0)) (some (15, 0)))) (cond (Nat.blt s 6) (cond (Nat.blt s 5) (some (16, 0)) (some (17, 0))) (cond (Nat.blt s 7) (some (18, 0)) none))) (cond (Nat.blt s 12) (cond (Nat.blt s 10) (cond (Nat.blt s 9) none (some (19, 0))) (cond (Nat.blt s 11) (some (20, 0)) none)) (cond (Nat.blt s 14) (cond (Nat.blt s 13) none none) (cond (Nat.blt s 15) none (cond (Nat.blt s 16) none none))))) (cond (Nat.blt s 26) (cond (Nat.blt s 21) (cond (Nat.blt s 19) (cond (Nat.blt s 18) none none) (cond (Nat.blt s 20) none (some (21, 0)))) (cond (Nat.blt s 23) (cond (Nat.blt s 22) (some (22, 0)) (some (23, 0))) (cond (Nat.blt s 24) (some (24, 0)) (cond (Nat.blt s 25) (some (25, 0)) (some (26, 0)))))) (cond (Nat.blt s 30) (cond (Nat.blt s 28) (cond (Nat.blt s 27) (some (27, 0)) (some (28, 0))) (cond (Nat.blt s 29) (some (29, 0)) (some (30, 0)))) (cond (Nat.blt s 32) (cond (Nat.blt s 31) none none) (cond (Nat.blt s 33) none (cond (Nat.blt s 34) none (some (31, 0)))))))) (cond (Nat.blt s 53) (cond (Nat.blt s 44) (cond (Nat.blt s 39) (cond (Nat.blt s 37) (cond (Nat.blt s 36) none none) (cond (Nat.blt s 38) (some (32, 0)) (some (33, 0)))) (cond (Nat.blt s 41) (cond (Nat.blt s 40) (some (34, 0)) (some (35, 0))) (cond (Nat.blt s 42) (some (36, 0)) (cond (Nat.blt s 43) (some (37, 0)) none)))) (cond (Nat.blt s 48) (cond (Nat.blt s 46) (cond (Nat.blt s 45) (some (38, 0)) (some (39, 0))) (cond (Nat.blt s 47) (some (40, 0)) (some (41, 0)))) (cond (Nat.blt s 50) (cond (Nat.blt s 49) (some (42, 0)) (some (43, 0))) (cond (Nat.blt s 51) (some (44, 0)) (cond (Nat.blt s 52) (some (45, 0)) (some (46, 0))))))) (cond (Nat.blt s 62) (cond (Nat.blt s 57) (cond (Nat.blt s 55) (cond (Nat.blt s 54) (some (47, 0)) (some (48, 0))) (cond (Nat.blt s 56) none none)) (cond (Nat.blt s 59) (cond (Nat.blt s 58) none (some (49, 0))) (cond (Nat.blt s 60) none (cond (Nat.blt s 61) (some (50, 0)) (some (51, 0)))))) (cond (Nat.blt s 66) (cond (Nat.blt s 64) (cond (Nat.blt s 63) (some (52, 0)) (some (53, 0))) (cond (Nat.blt s 65) (some (54, 0)) (some (55, 0)))) (cond (Nat.blt s 68) (cond (Nat.blt s 67) (some (56, 0)) (some (57, 0))) (cond (Nat.blt s 69) none (cond (Nat.blt s 70) none none))))))) (cond (Nat.blt k 2) (cond (Nat.blt s 5) (cond (Nat.blt s 2) (cond (Nat.blt s 1) (some (2, 0)) (some (4, 0))) (cond (Nat.blt s 3) (some (5, 0)) (cond (Nat.blt s 4) (some (58, 0)) none))) (cond (Nat.blt s 7) (cond (Nat.blt s 6) (some (6, 0)) (some (9, 0))) (cond (Nat.blt s 8) (some (10, 0)) (cond (Nat.blt s 9) (some (11, 0)) none)))) (cond (Nat.blt s 3) (cond (Nat.blt s 1) (some (59, 0)) (cond (Nat.blt s 2) (some (60, 0)) (some (62, 0)))) (cond (Nat.blt s 5) (cond (Nat.blt s 4) none none) (cond (Nat.blt s 6) none none))))) (cond (Nat.blt k 4) (cond (Nat.blt s 3) (cond (Nat.blt s 1) none (cond (Nat.blt s 2) none none)) (cond (Nat.blt s 5) (cond (Nat.blt s 4) none (some (63, i))) (cond (Nat.blt s 6) (some (64, i)) none))) (cond (Nat.blt k 5) none (cond (Nat.blt s 3) (cond (Nat.blt s 1) (some (66, 0)) (cond (Nat.blt s 2) (some (67, 0)) (some (68, 0)))) (cond (Nat.blt s 5) (cond (Nat.blt s 4) (some (69, 0)) (some (70, 0))) (cond (Nat.blt s 6) none none)))))) (cond (Nat.blt k 9) (cond (Nat.blt k 7) (cond (Nat.blt s 4) (cond (Nat.blt s 2) (cond (Nat.blt s 1) (some (8, 0)) none) (cond (Nat.blt s 3) none none)) (cond (Nat.blt s 6) (cond (Nat.blt s 5) none none) (cond (Nat.blt s 7) none (cond (Nat.blt s 8) none none)))) (cond (Nat.blt k 8) (cond (Nat.blt s 5) (cond (Nat.blt s 2) (cond (Nat.blt s 1) (some (71, i)) none) (cond (Nat.blt s 3) (some (72, i)) (cond (Nat.blt s 4) none (some (73, i))))) (cond (Nat.blt s 7) (cond (Nat.blt s 6) (some (74, i)) (some (75, i))) (cond (Nat.blt s 8) (some (76, i)) (cond (Nat.blt s 9) (some (77, i)) none)))) (cond (Nat.blt s 2) (cond (Nat.blt s 1) (some (78, 0)) (some (79, 0))) (cond (Nat.blt s 3) (some (80, 0)) (cond (Nat.blt s 4) none none))))) (cond (Nat.blt k 11) (cond (Nat.blt k 10) (cond (Nat.blt s 3) (cond (Nat.blt s 1) (some (81, 0)) (cond (Nat.blt s 2) (some (82, 0)) (some (83, 0)))) (cond (Nat.blt s 4) (some (84, 0)) (cond (Nat.blt s 5) none none))) (cond (Nat.blt s 9) (cond (Nat.blt s 4) (cond (Nat.blt s 2) (cond (Nat.blt s 1) none (some (85, 0))) (cond (Nat.blt s 3) (some (86, 0)) (some (87, 0)))) (cond (Nat.blt s 6) (cond (Nat.blt s 5) (some (88, 0)) (some (89, 0))) (cond (Nat.blt s 7) (some (90, 0)) (cond (Nat.blt s 8) none (some (91, 0)))))) (cond (Nat.blt s 13) (cond (Nat.blt s 11) (cond (Nat.blt s 10) (some (92, 0)) (some (93, 0))) (cond (Nat.blt s 12) (some (94, 0)) (some (95, 0)))) (cond (Nat.blt s 15) (cond (Nat.blt s 14) (some (96, 0)) (some (97, 0))) (cond (Nat.blt s 16) none (cond (Nat.blt s 17) none none)))))) (cond (Nat.blt k 12) (cond (Nat.blt s 5) (cond (Nat.blt s 2) (cond (Nat.blt s 1) (some (98, 0)) (some (99, 0))) (cond (Nat.blt s 3) (some (100, 0)) (cond (Nat.blt s 4) (some (101, 0)) (some (102, 0))))) (cond (Nat.blt s 8) (cond (Nat.blt s 6) (some (103, 0)) (cond (Nat.blt s 7) none (some (104, 0)))) (cond (Nat.blt s 9) none (cond (Nat.blt s 10) none none)))) none)))) (cond (Nat.blt k 19) (cond (Nat.blt k 16) (cond (Nat.blt k 14) none (cond (Nat.blt k 15) none none)) (cond (Nat.blt k 17) none (cond (Nat.blt k 18) none none))) (cond (Nat.blt k 22) (cond (Nat.blt k 20) none (cond (Nat.blt k 21) none none)) (cond (Nat.blt k 24) (cond (Nat.blt k 23) none none) (cond (Nat.blt k 25) none none))))) (cond (Nat.blt k 39) (cond (Nat.blt k 32) (cond (Nat.blt k 29) (cond (Nat.blt k 27) none (cond (Nat.blt k 28) none none)) (cond (Nat.blt k 30) none (cond (Nat.blt k 31) none none))) (cond (Nat.blt k 35) (cond (Nat.blt k 33) none (cond (Nat.blt k 34) none none)) (cond (Nat.blt k 37) (cond (Nat.blt k 36) none none) (cond (Nat.blt k 38) none none)))) (cond (Nat.blt k 46) (cond (Nat.blt k 42) (cond (Nat.blt k 40) none (cond (Nat.blt k 41) none none)) (cond (Nat.blt k 44) (cond (Nat.blt k 43) none none) (cond (Nat.blt k 45) none none))) (cond (Nat.blt k 49) (cond (Nat.blt k 47) none (cond (Nat.blt k 48) none none)) (cond (Nat.blt k 51) (cond (Nat.blt k 50) none none) (cond (Nat.blt k 52) none none)))))) (cond (Nat.blt k 79) (cond (Nat.blt k 66) (cond (Nat.blt k 59) (cond (Nat.blt k 56) (cond (Nat.blt k 54) none (cond (Nat.blt k 55) none none)) (cond (Nat.blt k 57) none (cond (Nat.blt k 58) none none))) (cond (Nat.blt k 62) (cond (Nat.blt k 60) (some (3, s)) (cond (Nat.blt k 61) (some (61, s)) none)) (cond (Nat.blt k 64) (cond (Nat.blt k 63) none none) (cond (Nat.blt k 65) (some (65, 3 * i + s)) none)))) (cond (Nat.blt k 72) (cond (Nat.blt k 69) (cond (Nat.blt k 67) none (cond (Nat.blt k 68) none none)) (cond (Nat.blt k 70) none (cond (Nat.blt k 71) none none))) (cond (Nat.blt k 75) (cond (Nat.blt k 73) none (cond (Nat.blt k 74) none none)) (cond (Nat.blt k 77) (cond (Nat.blt k 76) none none) (cond (Nat.blt k 78) none none))))) (cond (Nat.blt k 92) (cond (Nat.blt k 85) (cond (Nat.blt k 82) (cond (Nat.blt k 80) none (cond (Nat.blt k 81) none none)) (cond (Nat.blt k 83) none (cond (Nat.blt k 84) none none))) (cond (Nat.blt k 88) (cond (Nat.blt k 86) none (cond (Nat.blt k 87) none none)) (cond (Nat.blt k 90) (cond (Nat.blt k 89) none none) (cond (Nat.blt k 91) none none)))) (cond (Nat.blt k 99) (cond (Nat.blt k 95) (cond (Nat.blt k 93) none (cond (Nat.blt k 94) none none)) (cond (Nat.blt k 97) (cond (Nat.blt k 96) none none) (cond (Nat.blt k 98) none none))) (cond (Nat.blt k 102) (cond (Nat.blt k 100) none (cond (Nat.blt k 101) none none)) (cond (Nat.blt k 104) (cond (Nat.blt k 103) none none) (cond (Nat.blt k 105) none none)))))))
def sh_dy (k s : Nat) : Option Nat := cond (Nat.beq k 6 && (Nat.beq s 4 || Nat.beq s 5)) (some 7) none
def sh_lg (k s : Nat) : Bool := Nat.beq k 0 && Nat.beq s 19
def sh_el (t : Nat) : FieldType := cond (Nat.beq t 0) .int (cond (Nat.beq t 1) .byte (cond (Nat.beq t 2) .short (cond (Nat.beq t 3) (.object "StoreRealm$Town") (.array .int))))
end
section
abbrev AV : Type := Int32 ⊕ Int64 ⊕ (Nat × Nat)
abbrev HS : Type := (Nat → Nat → Nat → Int32) × Int64
abbrev vI (x : Int32) : AV := .inl x
abbrev vL (x : Int64) : AV := .inr (.inl x)
abbrev vR (k i : Nat) : AV := .inr (.inr (k, i))
abbrev EE : Type := va_G × (Nat → ClassId) × (Nat → Nat → Nat)
abbrev MI : Type := MethodName × ByteArray × Nat × Option FieldType
def tv (E : EE) : AV → Value
  | .inl x => .int x
  | .inr (.inl x) => .long x
  | .inr (.inr q) => .ref (E.2.2 q.1 q.2)
def gv (σ : HS) (k i s : Nat) : AV := match sh_rf k i s with
  | some q => .inr (.inr q)
  | none => match sh_dy k s with
    | some k' => .inr (.inr (k', (σ.1 k i s).toNatClampNeg))
    | none => cond (sh_lg k s) (.inr (.inl σ.2)) (.inl (σ.1 k i s))
def up (σ : HS) (k i s : Nat) (x : Int32) : HS := (fun k' i' s' => if k' = k ∧ i' = i ∧ s' = s then x else σ.1 k' i' s', σ.2)
def intS (k i s : Nat) : Bool := (sh_rf k i s).isNone && (sh_dy k s).isNone && !sh_lg k s
theorem gv_int {σ : HS} {k i s : Nat} (h : intS k i s = true) : gv σ k i s = vI (σ.1 k i s) := by
  simp only [intS, Bool.and_eq_true, Option.isNone_iff_eq_none, Bool.not_eq_true'] at h
  obtain ⟨⟨h1, h2⟩, h3⟩ := h
  simp [gv, h1, h2, h3]
def Reg (E : EE) (q : Nat) : Prop := ∃ k i : Nat, k < sh_NK ∧ i < sh_cnt k ∧ q = E.2.2 k i
def Inj (E : EE) : Prop := ∀ k i k' i' : Nat, k < sh_NK → i < sh_cnt k → k' < sh_NK → i' < sh_cnt k' → E.2.2 k i = E.2.2 k' i' → k = k' ∧ i = i'
def RepC (E : EE) (σ : HS) (k i : Nat) (H : Heap) : Prop :=
  (∀ (ci : Nat) (r : vw_C), sh_obj k = some ci → vwCl[ci]? = some r → t_OB (E.2.2 k i) (E.1.1 ci) r.2.2 (E.1.2 ci) H (fun s => tv E (gv σ k i s))) ∧
  (∀ t n : Nat, sh_arr k = some (t, n) → H[E.2.2 k i]? = some (arrV (E.2.1 t) n (fun s => tv E (gv σ k i s))))
def Rep (E : EE) (σ : HS) (H : Heap) : Prop := ∀ k i : Nat, k < sh_NK → i < sh_cnt k → RepC E σ k i H
def WALL : List Cond := lw_tbl.filter goodWord
theorem WALL_in {w : Cond} (h : w ∈ lw_tbl) (hg : goodWord w = true) : w ∈ WALL := List.mem_filter.mpr ⟨h, hg⟩
theorem WALL_good {w : Cond} (h : w ∈ WALL) : (w.onTables && w.keeps) = true ∨ ∃ ty, w = .arrayClass ty := good_of_word (List.mem_filter.mp h).2
def NALL : List (String × Nat × MethodName × String) := [("StoreRealm$Land", 26, ⟨"StoreRealm$Town", "<init>", "()V"⟩, "StoreRealm"), ("StoreRealm", 18, ⟨"StoreRealm$Tally", "<init>", "()V"⟩, "StoreRealm"), ("StoreRealm", 25, ⟨"StoreRealm$Carriers", "<init>", "()V"⟩, "StoreRealm"), ("StoreRealm", 36, ⟨"StoreRealm$OrderBook", "<init>", "()V"⟩, "StoreRealm"), ("StoreRealm$OrderBook", 11, ⟨"StoreRealm$Tokens", "<init>", "()V"⟩, "StoreRealm"), ("StoreRealm$OrderBook", 20, ⟨"StoreRealm$Orders", "<init>", "()V"⟩, "StoreRealm"), ("StoreRealm", 43, ⟨"StoreRealm$Feasts", "<init>", "()V"⟩, "StoreRealm"), ("StoreRealm", 50, ⟨"StoreRealm$Planner", "<init>", "()V"⟩, "StoreRealm"), ("StoreRealm", 57, ⟨"StoreRealm$Ledger", "<init>", "()V"⟩, "StoreRealm"), ("StoreRealm$Land", 37, ⟨"StoreRealm", "within", "(III)Z"⟩, "StoreRealm"), ("StoreRealm$Tokens", 58, ⟨"StoreRealm", "within", "(III)Z"⟩, "StoreRealm"), ("StoreRealm$OrderBook", 108, ⟨"StoreRealm", "subject", "(II)I"⟩, "StoreRealm"), ("StoreRealm$Orders", 52, ⟨"StoreRealm", "within", "(III)Z"⟩, "StoreRealm"), ("StoreRealm$Orders", 64, ⟨"StoreRealm", "isKind", "(I)Z"⟩, "StoreRealm"), ("StoreRealm$Planner", 128, ⟨"StoreRealm", "monthsOnTheWay", "(I)I"⟩, "StoreRealm"), ("StoreRealm$Ledger", 40, ⟨"StoreRealm", "within", "(III)Z"⟩, "StoreRealm")]
def stTab : List (Nat × String) := [(62, "maize"), (68, "cloth"), (70, "meat"), (72, "when"), (74, "move"), (76, "from"), (78, "to"), (80, "or"), (82, "and"), (84, "not"), (86, "month"), (88, "people"), (90, "stock"), (92, "old"), (94, "room")]
def stLen : List Nat := [5, 5, 4, 4, 4, 4, 2, 2, 3, 3, 5, 6, 5, 3, 4]
def stByt : List (List Int32) := [[109, 97, 105, 122, 101], [99, 108, 111, 116, 104], [109, 101, 97, 116], [119, 104, 101, 110], [109, 111, 118, 101], [102, 114, 111, 109], [116, 111], [111, 114], [97, 110, 100], [110, 111, 116], [109, 111, 110, 116, 104], [112, 101, 111, 112, 108, 101], [115, 116, 111, 99, 107], [111, 108, 100], [114, 111, 111, 109]]
def KS (E : EE) (U : State) (H : Heap) : Prop := vk_S 15 stLen stByt (E.2.2 kStr) (E.2.2 kStrV) (Reg E) U H ∧ va_Z "java/lang/String" "COMPACT_STRINGS" "Z" (.int 1) (Reg E) U H ∧ ∀ (i : Nat) (q : Nat × String), stTab[i]? = some q → vk_R "StoreRealm$Tokens" q.1 q.2 (E.2.2 kStr i) U
def KK (E : EE) (U : State) (H : Heap) : Prop := (∀ (c : Nat) (q : vw_C), vwCl[c]? = some q → u_Kn U q.1 q.2.1 q.2.2 (E.1.1 c) (E.1.2 c)) ∧ (∀ t : Nat, t < 5 → ArrOfT U (E.2.1 t) (sh_el t)) ∧ (∀ q ∈ NALL, va_Nw (.methodLinkNest q.1 q.2.1 q.2.2.1 q.2.2.2) U) ∧ KS E U H
theorem KK.go {E : EE} {s U : State} {H0 H : Heap} (h : KK E s H0) (hW : s.WarmedH U.vm) (hk : ∀ a : Nat, a < H0.size → ¬ Reg E a → H[a]? = H0[a]?) : KK E U H := by
  obtain ⟨h1, h2, h3, h4, h5, h6⟩ := h
  have ha := hW.alike
  exact ⟨fun c q hq => u_Kn_moved ha (h1 c q hq), fun t ht => arrOfT_moved ha (h2 t ht), fun q hq => va_Nw.warmM hW (h3 q hq), (h4.moved ha).kept hk, (h5.moved ha).kept hk, fun i q hq => vk_R.warm hW (h6 i q hq)⟩
theorem KK.same {E : EE} {s U : State} {H : Heap} (h : KK E s H) (hv : U.vm = s.vm) : KK E U H := by
  obtain ⟨h1, h2, h3, h4, h5, h6⟩ := h
  have ha : s.vm.Alike U.vm := by rw [hv]; exact Vm.Alike.refl _
  exact ⟨fun c q hq => u_Kn_moved ha (h1 c q hq), fun t ht => arrOfT_moved ha (h2 t ht), fun q hq => va_Nw.same rfl hv.symm (h3 q hq), h4.moved ha, h5.moved ha, fun i q hq => vk_R.same hv (h6 i q hq)⟩
def rmD (d : Nat) : Room := { frames := d, cells := 0, slots := 0, locals := d * 64 }
def LV (E : EE) (lr : Array Slot) (nL : Nat) (ls : List (Option AV)) : Prop := lr.size = nL ∧ lv_wf lr ∧ ∀ (i : Nat) (v : AV), ls[i]? = some (some v) → lr[i]? = some (.val (tv E v))
def QC (E : EE) (Q : Option AV → HS → Prop) : Array Value → State → Outcome → State → Prop := fun _ st o t => (∃ (rv : Option AV) (σ : HS), o = .returned (rv.map (tv E)) ∧ Q rv σ ∧ Rep E σ t.heap ∧ KK E t t.heap) ∧ va_F (Reg E) st t
def ENV (E : EE) (M : MI) (p : Program) (s : State) (m : MethodId) (args : Array Value) (meth : Method) (c : Code) : Prop :=
  p.tables.exec = Jvm.exec ∧ c.code = M.2.1 ∧ c.maxLocals = M.2.2.1 ∧ meth.sig.returnType = M.2.2.2 ∧ s.vm.findClass M.1.cls = some m.cls ∧ (∀ w ∈ WALL, w.before args s = true) ∧ meth.locks = false ∧ Inj E ∧ KK E s s.heap
def EV (d : Nat) (M : MI) (pc : Nat) (ls : List (Option AV)) (st : List AV) (σ : HS) (Q : Option AV → HS → Prop) : Prop :=
  ∀ (E : EE) (p : Program) (l : Launch) (e : Env) (s : State) (m : MethodId) (args : Array Value) (below : List Frame) (meth : Method) (c : Code) (H : Heap) (locs : List Loc) (lr : Array Slot),
    ENV E M p s m args meth c → Rep E σ H → va_S (Reg E) s.heap H locs → LV E lr M.2.2.1 ls →
    W p l e (rmD d) s m args below meth c H locs 0 0 (MQ below (QC E Q) args s 0 0 (Reg E)) (F0 m pc lr (st.map (tv E)))
def catA : AV → Nat
  | .inr (.inl _) => 2
  | _ => 1
def entS (As : List AV) : List (Option AV) := As.flatMap (fun v => if catA v = 2 then [some v, none] else [some v])
def entL (M : MI) (As : List AV) : List (Option AV) := entS As ++ List.replicate (M.2.2.1 - (entS As).length) none
def MT (d : Nat) (M : MI) (As : List AV) (σ : HS) (Q : Option AV → HS → Prop) : Prop := EV d M 0 (entL M As) [] σ Q
theorem tv_cat (E : EE) (v : AV) : (tv E v).category = catA v := by
  rcases v with x | x | x <;> rfl
theorem tv_cats (E : EE) (st : List AV) : ((st.map (tv E)).map fun v => v.category) = st.map catA := by
  rw [List.map_map]
  exact List.map_congr_left (fun v _ => tv_cat E v)
theorem entS_sl (E : EE) (As : List AV) : lg_sl (As.map (tv E)) = (entS As).map (fun o => match o with | some v => Slot.val (tv E v) | none => Slot.second) := by
  induction As with
  | nil => rfl
  | cons v t ih =>
    have e1 : lg_sl ((v :: t).map (tv E)) = (if (tv E v).category = 2 then [.val (tv E v), .second] else [.val (tv E v)]) ++ lg_sl (t.map (tv E)) := by simp [lg_sl]
    have e2 : entS (v :: t) = (if catA v = 2 then [some v, none] else [some v]) ++ entS t := by simp [entS]
    rw [e1, e2, List.map_append, ih, tv_cat]
    congr 1
    by_cases h : catA v = 2
    · rw [if_pos h, if_pos h]; rfl
    · rw [if_neg h, if_neg h]; rfl
theorem MT.met {d : Nat} {M : MI} {As : List AV} {σ : HS} {Q : Option AV → HS → Prop} (h : MT d M As σ Q) (hpl : plainName M.1.cls = true) (hln : (entS As).length ≤ M.2.2.1) (E : EE) (hI : Inj E) (l : Launch) :
    Met l M.1 (Cond.code M.1 M.2.1 M.2.2.1 M.2.2.2 :: WALL) (rmD d) (va_Pc (As.map (tv E)) (fun U => Rep E σ U.heap ∧ KK E U U.heap)) (QC E Q) 0 0 (Reg E) := by
  refine Met.ofW (cc := M.2.1) (maxL := M.2.2.1) (ret := M.2.2.2) hpl rfl ?_
  intro p e s m args below meth c s₁ B hml hv
  obtain ⟨rfl, hR, hK⟩ := hv
  have hts := atoms_spec (ws := Cond.code M.1 M.2.1 M.2.2.1 M.2.2.2 :: WALL) B.pre
  have hsl : (lg_sl (As.map (tv E))).length = (entS As).length := by rw [entS_sl, List.length_map]
  have hl := lv_entry (As.map (tv E)) (n := M.2.2.1) (by rw [hsl]; exact hln)
  rw [lg_entry_eq]
  refine h E p l e s m _ below meth c s.heap [] _ ⟨B.exec, B.bytes, hml, B.returns, findClass_of_methodNamed B.named, fun w hw => hts w (List.mem_cons_of_mem _ hw), B.notSynchronized, hI, hK⟩ hR va_S.rf ⟨hl.1, hl.2.1, fun i v hi => ?_⟩
  unfold entL at hi
  by_cases hlt : i < (entS As).length
  · rw [List.getElem?_append_left hlt] at hi
    rw [entS_sl, List.getElem?_toArray, List.getElem?_append_left (by rw [List.length_map]; exact hlt), List.getElem?_map, hi]
    rfl
  · rw [List.getElem?_append_right (by omega)] at hi
    have hm := List.mem_of_getElem? hi
    rw [List.mem_replicate] at hm
    exact absurd hm.2 (by simp)
theorem LV.weak {E : EE} {lr : Array Slot} {n : Nat} {ls ls' : List (Option AV)} (h : LV E lr n ls) (hw : ∀ (i : Nat) (v : AV), ls'[i]? = some (some v) → ls[i]? = some (some v)) : LV E lr n ls' := ⟨h.1, h.2.1, fun i v hv => h.2.2 i v (hw i v hv)⟩
def maskL : List Bool → List (Option AV) → List (Option AV)
  | b :: bs, x :: xs => (cond b x none) :: maskL bs xs
  | _, _ => []
theorem maskL_get : ∀ (bs : List Bool) (ls : List (Option AV)) (i : Nat) (v : AV), (maskL bs ls)[i]? = some (some v) → ls[i]? = some (some v)
  | [], ls, i, v, h => by simp [maskL] at h
  | b :: bs, [], i, v, h => by simp [maskL] at h
  | b :: bs, x :: xs, 0, v, h => by
    cases b
    · simp [maskL] at h
    · simpa [maskL] using h
  | b :: bs, x :: xs, i + 1, v, h => by
    simp only [maskL, List.getElem?_cons_succ] at h ⊢
    exact maskL_get bs xs i v h
theorem EV.mask {d : Nat} {M : MI} {pc : Nat} {ls : List (Option AV)} {st : List AV} {σ : HS} {Q : Option AV → HS → Prop} (bs : List Bool) (k : EV d M pc (maskL bs ls) st σ Q) : EV d M pc ls st σ Q :=
  fun E p l e s m args below meth c H locs lr he hR hS hL => k E p l e s m args below meth c H locs lr he hR hS (hL.weak (maskL_get bs ls))
theorem W.mono {p : Program} {l : Launch} {e : Env} {R : Room} {s : State} {m : MethodId} {args : Array Value} {below : List Frame} {meth : Method} {c : Code} {H : Heap} {locs : List Loc} {cells slots : Nat} {Q Q' : State → Prop} {g : JFrame} (h : W p l e R s m args below meth c H locs cells slots Q g) (hq : ∀ t, Q t → Q' t) : W p l e R s m args below meth c H locs cells slots Q' g := by
  intro T hT X
  obtain ⟨t, a, b⟩ := h T hT X
  exact ⟨t, a, hq t b⟩
theorem EV.mono {d : Nat} {M : MI} {pc : Nat} {ls : List (Option AV)} {st : List AV} {σ : HS} {Q Q' : Option AV → HS → Prop} (h : EV d M pc ls st σ Q) (hq : ∀ r σ', Q r σ' → Q' r σ') : EV d M pc ls st σ Q' := by
  intro E p l e s m args below meth c H locs lr he hR hS hL
  refine W.mono (h E p l e s m args below meth c H locs lr he hR hS hL) ?_
  rintro t ⟨o, h1, h2, ⟨⟨rv, σ', h3, h4, h5⟩, h6⟩, h7⟩
  exact ⟨o, h1, h2, ⟨⟨rv, σ', h3, hq _ _ h4, h5⟩, h6⟩, h7⟩
theorem MT.mono {d : Nat} {M : MI} {As : List AV} {σ : HS} {Q Q' : Option AV → HS → Prop} (h : MT d M As σ Q) (hq : ∀ r σ', Q r σ' → Q' r σ') : MT d M As σ Q' := EV.mono h hq
def bI (P : Prop) [Decidable P] : Int32 := if P then 1 else 0
theorem bI_t {P : Prop} [Decidable P] (h : P) : bI P = 1 := if_pos h
theorem bI_f {P : Prop} [Decidable P] (h : ¬ P) : bI P = 0 := if_neg h
theorem bI_nar {P : Prop} [Decidable P] : narrow .boolean (.int (bI P)) = .int (bI P) := by
  by_cases h : P
  · rw [bI_t h]; rfl
  · rw [bI_f h]; rfl
theorem bI_1 : (1 : Int32) = bI True := rfl
theorem bI_0 : (0 : Int32) = bI False := rfl
section EVR
variable {d : Nat} {M : MI} {pc : Nat} {ls : List (Option AV)} {st : List AV} {σ : HS} {Q : Option AV → HS → Prop}
theorem EV.iconst {n : Int} {v : Int32} (h : decode M.2.1 pc = .ok (.iconst n, 1)) (hv : Int32.ofInt n = v) (k : EV d M (pc + 1) ls (vI v :: st) σ Q) : EV d M pc ls (st) σ Q :=
  fun E p l e s m args below meth c H locs lr he hR hS hL => lv_iconst he.1 he.2.1 h hv (k E p l e s m args below meth c H locs lr he hR hS hL)
theorem EV.bipush {n : Int} {v : Int32} (h : decode M.2.1 pc = .ok (.bipush n, 2)) (hv : (Int8.ofInt n).toInt32 = v) (k : EV d M (pc + 2) ls (vI v :: st) σ Q) : EV d M pc ls (st) σ Q :=
  fun E p l e s m args below meth c H locs lr he hR hS hL => lv_bipush he.1 he.2.1 h hv (k E p l e s m args below meth c H locs lr he hR hS hL)
theorem EV.sipush {n : Int} {v : Int32} (h : decode M.2.1 pc = .ok (.sipush n, 3)) (hv : (Int16.ofInt n).toInt32 = v) (k : EV d M (pc + 3) ls (vI v :: st) σ Q) : EV d M pc ls (st) σ Q :=
  fun E p l e s m args below meth c H locs lr he hR hS hL => lv_sipush he.1 he.2.1 h hv (k E p l e s m args below meth c H locs lr he hR hS hL)
theorem EV.lconst {n : Fin 2} {v : Int64} (h : decode M.2.1 pc = .ok (.lconst n, 1)) (hv : Int64.ofNat (n : Nat) = v) (k : EV d M (pc + 1) ls (vL v :: st) σ Q) : EV d M pc ls (st) σ Q :=
  fun E p l e s m args below meth c H locs lr he hR hS hL => lv_lconst he.1 he.2.1 h hv (k E p l e s m args below meth c H locs lr he hR hS hL)
theorem EV.iload_n {j : Fin 4} {x : Int32} (h : decode M.2.1 pc = .ok (.iload_n j, 1)) (hl : ls[(j : Nat)]? = some (some (vI x))) (k : EV d M (pc + 1) ls (vI x :: st) σ Q) : EV d M pc ls (st) σ Q :=
  fun E p l e s m args below meth c H locs lr he hR hS hL => lv_iload_n he.1 he.2.1 h rfl (hL.2.2 _ _ hl) (k E p l e s m args below meth c H locs lr he hR hS hL)
theorem EV.iload {j : Nat} {x : Int32} (h : decode M.2.1 pc = .ok (.iload j, 2)) (hl : ls[j]? = some (some (vI x))) (k : EV d M (pc + 2) ls (vI x :: st) σ Q) : EV d M pc ls (st) σ Q :=
  fun E p l e s m args below meth c H locs lr he hR hS hL => lv_iload he.1 he.2.1 h (hL.2.2 _ _ hl) (k E p l e s m args below meth c H locs lr he hR hS hL)
theorem EV.lload_n {j : Fin 4} {x : Int64} (h : decode M.2.1 pc = .ok (.lload_n j, 1)) (hl : ls[(j : Nat)]? = some (some (vL x))) (k : EV d M (pc + 1) ls (vL x :: st) σ Q) : EV d M pc ls (st) σ Q :=
  fun E p l e s m args below meth c H locs lr he hR hS hL => lv_lload_n he.1 he.2.1 h rfl (hL.2.2 _ _ hl) (k E p l e s m args below meth c H locs lr he hR hS hL)
theorem EV.aload_n {j : Fin 4} {a b : Nat} (h : decode M.2.1 pc = .ok (.aload_n j, 1)) (hl : ls[(j : Nat)]? = some (some (vR a b))) (k : EV d M (pc + 1) ls (vR a b :: st) σ Q) : EV d M pc ls (st) σ Q :=
  fun E p l e s m args below meth c H locs lr he hR hS hL => lv_aload_n he.1 he.2.1 h rfl (hL.2.2 _ _ hl) (k E p l e s m args below meth c H locs lr he hR hS hL)
theorem EV.aload {j : Nat} {a b : Nat} (h : decode M.2.1 pc = .ok (.aload j, 2)) (hl : ls[j]? = some (some (vR a b))) (k : EV d M (pc + 2) ls (vR a b :: st) σ Q) : EV d M pc ls (st) σ Q :=
  fun E p l e s m args below meth c H locs lr he hR hS hL => lv_aload he.1 he.2.1 h (hL.2.2 _ _ hl) (k E p l e s m args below meth c H locs lr he hR hS hL)
theorem EV.iadd {x y : Int32} (h : decode M.2.1 pc = .ok (.iadd, 1)) (k : EV d M (pc + 1) ls (vI (x + y) :: st) σ Q) : EV d M pc ls (vI y :: vI x :: st) σ Q :=
  fun E p l e s m args below meth c H locs lr he hR hS hL => lv_iadd he.1 he.2.1 h (k E p l e s m args below meth c H locs lr he hR hS hL)
theorem EV.isub {x y : Int32} (h : decode M.2.1 pc = .ok (.isub, 1)) (k : EV d M (pc + 1) ls (vI (x - y) :: st) σ Q) : EV d M pc ls (vI y :: vI x :: st) σ Q :=
  fun E p l e s m args below meth c H locs lr he hR hS hL => lv_isub he.1 he.2.1 h (k E p l e s m args below meth c H locs lr he hR hS hL)
theorem EV.imul {x y : Int32} (h : decode M.2.1 pc = .ok (.imul, 1)) (k : EV d M (pc + 1) ls (vI (x * y) :: st) σ Q) : EV d M pc ls (vI y :: vI x :: st) σ Q :=
  fun E p l e s m args below meth c H locs lr he hR hS hL => lv_imul he.1 he.2.1 h (k E p l e s m args below meth c H locs lr he hR hS hL)
theorem EV.iand {x y : Int32} (h : decode M.2.1 pc = .ok (.iand, 1)) (k : EV d M (pc + 1) ls (vI (x &&& y) :: st) σ Q) : EV d M pc ls (vI y :: vI x :: st) σ Q :=
  fun E p l e s m args below meth c H locs lr he hR hS hL => lv_iand he.1 he.2.1 h (k E p l e s m args below meth c H locs lr he hR hS hL)
theorem EV.ior {x y : Int32} (h : decode M.2.1 pc = .ok (.ior, 1)) (k : EV d M (pc + 1) ls (vI (x ||| y) :: st) σ Q) : EV d M pc ls (vI y :: vI x :: st) σ Q :=
  fun E p l e s m args below meth c H locs lr he hR hS hL => lv_ior he.1 he.2.1 h (k E p l e s m args below meth c H locs lr he hR hS hL)
theorem EV.ixor {x y : Int32} (h : decode M.2.1 pc = .ok (.ixor, 1)) (k : EV d M (pc + 1) ls (vI (x ^^^ y) :: st) σ Q) : EV d M pc ls (vI y :: vI x :: st) σ Q :=
  fun E p l e s m args below meth c H locs lr he hR hS hL => lv_ixor he.1 he.2.1 h (k E p l e s m args below meth c H locs lr he hR hS hL)
theorem EV.ishl {x y : Int32} (h : decode M.2.1 pc = .ok (.ishl, 1)) (k : EV d M (pc + 1) ls (vI (x <<< (y &&& 31)) :: st) σ Q) : EV d M pc ls (vI y :: vI x :: st) σ Q :=
  fun E p l e s m args below meth c H locs lr he hR hS hL => lv_ishl he.1 he.2.1 h (k E p l e s m args below meth c H locs lr he hR hS hL)
theorem EV.ishr {x y : Int32} (h : decode M.2.1 pc = .ok (.ishr, 1)) (k : EV d M (pc + 1) ls (vI (x >>> (y &&& 31)) :: st) σ Q) : EV d M pc ls (vI y :: vI x :: st) σ Q :=
  fun E p l e s m args below meth c H locs lr he hR hS hL => lv_ishr he.1 he.2.1 h (k E p l e s m args below meth c H locs lr he hR hS hL)
theorem EV.ineg {x : Int32} (h : decode M.2.1 pc = .ok (.ineg, 1)) (k : EV d M (pc + 1) ls (vI (-x) :: st) σ Q) : EV d M pc ls (vI x :: st) σ Q :=
  fun E p l e s m args below meth c H locs lr he hR hS hL => lv_ineg he.1 he.2.1 h (k E p l e s m args below meth c H locs lr he hR hS hL)
theorem EV.idiv {x y : Int32} (h : decode M.2.1 pc = .ok (.idiv, 1)) (hne : ¬ y = 0) (k : EV d M (pc + 1) ls (vI (x / y) :: st) σ Q) : EV d M pc ls (vI y :: vI x :: st) σ Q :=
  fun E p l e s m args below meth c H locs lr he hR hS hL => lv_idiv he.1 he.2.1 h hne (k E p l e s m args below meth c H locs lr he hR hS hL)
theorem EV.irem {x y : Int32} (h : decode M.2.1 pc = .ok (.irem, 1)) (hne : ¬ y = 0) (k : EV d M (pc + 1) ls (vI (x - x / y * y) :: st) σ Q) : EV d M pc ls (vI y :: vI x :: st) σ Q :=
  fun E p l e s m args below meth c H locs lr he hR hS hL => lv_irem he.1 he.2.1 h hne (k E p l e s m args below meth c H locs lr he hR hS hL)
theorem EV.lor {x y : Int64} (h : decode M.2.1 pc = .ok (.lor, 1)) (k : EV d M (pc + 1) ls (vL (x ||| y) :: st) σ Q) : EV d M pc ls (vL y :: vL x :: st) σ Q :=
  fun E p l e s m args below meth c H locs lr he hR hS hL => lv_lor he.1 he.2.1 h (k E p l e s m args below meth c H locs lr he hR hS hL)
theorem EV.ladd {x y : Int64} (h : decode M.2.1 pc = .ok (.ladd, 1)) (k : EV d M (pc + 1) ls (vL (x + y) :: st) σ Q) : EV d M pc ls (vL y :: vL x :: st) σ Q :=
  fun E p l e s m args below meth c H locs lr he hR hS hL => lv_ladd he.1 he.2.1 h (k E p l e s m args below meth c H locs lr he hR hS hL)
theorem EV.lshl {x v : Int64} {y : Int32} (h : decode M.2.1 pc = .ok (.lshl, 1)) (hv : x <<< (y.toInt64 &&& 63) = v) (k : EV d M (pc + 1) ls (vL v :: st) σ Q) : EV d M pc ls (vI y :: vL x :: st) σ Q :=
  fun E p l e s m args below meth c H locs lr he hR hS hL => lv_lshl he.1 he.2.1 h hv (k E p l e s m args below meth c H locs lr he hR hS hL)
theorem EV.i2l {x : Int32} {v : Int64} (h : decode M.2.1 pc = .ok (.i2l, 1)) (hv : x.toInt64 = v) (k : EV d M (pc + 1) ls (vL v :: st) σ Q) : EV d M pc ls (vI x :: st) σ Q :=
  fun E p l e s m args below meth c H locs lr he hR hS hL => lv_i2l he.1 he.2.1 h hv (k E p l e s m args below meth c H locs lr he hR hS hL)
theorem EV.i2b {x v : Int32} (h : decode M.2.1 pc = .ok (.i2b, 1)) (hv : x.toInt8.toInt32 = v) (k : EV d M (pc + 1) ls (vI v :: st) σ Q) : EV d M pc ls (vI x :: st) σ Q :=
  fun E p l e s m args below meth c H locs lr he hR hS hL => lv_i2b he.1 he.2.1 h hv (k E p l e s m args below meth c H locs lr he hR hS hL)
theorem EV.i2s {x v : Int32} (h : decode M.2.1 pc = .ok (.i2s, 1)) (hv : x.toInt16.toInt32 = v) (k : EV d M (pc + 1) ls (vI v :: st) σ Q) : EV d M pc ls (vI x :: st) σ Q :=
  fun E p l e s m args below meth c H locs lr he hR hS hL => lv_i2s he.1 he.2.1 h hv (k E p l e s m args below meth c H locs lr he hR hS hL)
theorem EV.i2c {x v : Int32} (h : decode M.2.1 pc = .ok (.i2c, 1)) (hv : (x.toUInt32 % 65536).toInt32 = v) (k : EV d M (pc + 1) ls (vI v :: st) σ Q) : EV d M pc ls (vI x :: st) σ Q :=
  fun E p l e s m args below meth c H locs lr he hR hS hL => lv_i2c he.1 he.2.1 h hv (k E p l e s m args below meth c H locs lr he hR hS hL)
theorem EV.lcmp {x y : Int64} (h : decode M.2.1 pc = .ok (.lcmp, 1)) (k : EV d M (pc + 1) ls (vI (lg_cmp x y) :: st) σ Q) : EV d M pc ls (vL y :: vL x :: st) σ Q :=
  fun E p l e s m args below meth c H locs lr he hR hS hL => W.lcmp he.1 he.2.1 h (k E p l e s m args below meth c H locs lr he hR hS hL)
theorem EV.dup {v : AV} (h : decode M.2.1 pc = .ok (.dup, 1)) (hc : catA v = 1) (k : EV d M (pc + 1) ls (v :: v :: st) σ Q) : EV d M pc ls (v :: st) σ Q :=
  fun E p l e s m args below meth c H locs lr he hR hS hL => lv_dup he.1 he.2.1 h ((tv_cat E v).trans hc) (k E p l e s m args below meth c H locs lr he hR hS hL)
theorem EV.pop {v : AV} (h : decode M.2.1 pc = .ok (.pop, 1)) (hc : catA v = 1) (k : EV d M (pc + 1) ls (st) σ Q) : EV d M pc ls (v :: st) σ Q :=
  fun E p l e s m args below meth c H locs lr he hR hS hL => lv_pop he.1 he.2.1 h ((tv_cat E v).trans hc) (k E p l e s m args below meth c H locs lr he hR hS hL)
theorem EV.dup2 {v w : AV} (h : decode M.2.1 pc = .ok (.dup2, 1)) (hc : catA v = 1) (hc2 : catA w = 1) (k : EV d M (pc + 1) ls (v :: w :: v :: w :: st) σ Q) : EV d M pc ls (v :: w :: st) σ Q :=
  fun E p l e s m args below meth c H locs lr he hR hS hL => lv_dup2_11 he.1 he.2.1 h ((tv_cat E v).trans hc) ((tv_cat E w).trans hc2) (k E p l e s m args below meth c H locs lr he hR hS hL)
theorem EV.dup_x1 {v w : AV} (h : decode M.2.1 pc = .ok (.dup_x1, 1)) (hc : catA v = 1) (hc2 : catA w = 1) (k : EV d M (pc + 1) ls (v :: w :: v :: st) σ Q) : EV d M pc ls (v :: w :: st) σ Q :=
  fun E p l e s m args below meth c H locs lr he hR hS hL => lv_dup_x1 he.1 he.2.1 h ((tv_cat E v).trans hc) ((tv_cat E w).trans hc2) (k E p l e s m args below meth c H locs lr he hR hS hL)
theorem EV.if_eq {x : Int32} {off : Int} {tgt : Nat} (h : decode M.2.1 pc = .ok (.ifCond .eq off, 3)) (ht : (pc : Int) + off = (tgt : Int)) (kt : x = 0 → EV d M tgt ls st σ Q) (kf : ¬ x = 0 → EV d M (pc + 3) ls st σ Q) : EV d M pc ls (vI x :: st) σ Q :=
  fun E p l e s m args below meth c H locs lr he hR hS hL => lv_if_eq he.1 he.2.1 h ht (fun q => kt q E p l e s m args below meth c H locs lr he hR hS hL) (fun q => kf q E p l e s m args below meth c H locs lr he hR hS hL)
theorem EV.if_ne {x : Int32} {off : Int} {tgt : Nat} (h : decode M.2.1 pc = .ok (.ifCond .ne off, 3)) (ht : (pc : Int) + off = (tgt : Int)) (kt : ¬ x = 0 → EV d M tgt ls st σ Q) (kf : x = 0 → EV d M (pc + 3) ls st σ Q) : EV d M pc ls (vI x :: st) σ Q :=
  fun E p l e s m args below meth c H locs lr he hR hS hL => lv_if_ne he.1 he.2.1 h ht (fun q => kt q E p l e s m args below meth c H locs lr he hR hS hL) (fun q => kf q E p l e s m args below meth c H locs lr he hR hS hL)
theorem EV.if_lt {x : Int32} {off : Int} {tgt : Nat} (h : decode M.2.1 pc = .ok (.ifCond .lt off, 3)) (ht : (pc : Int) + off = (tgt : Int)) (kt : x < 0 → EV d M tgt ls st σ Q) (kf : ¬ x < 0 → EV d M (pc + 3) ls st σ Q) : EV d M pc ls (vI x :: st) σ Q :=
  fun E p l e s m args below meth c H locs lr he hR hS hL => lv_if_lt he.1 he.2.1 h ht (fun q => kt q E p l e s m args below meth c H locs lr he hR hS hL) (fun q => kf q E p l e s m args below meth c H locs lr he hR hS hL)
theorem EV.if_ge {x : Int32} {off : Int} {tgt : Nat} (h : decode M.2.1 pc = .ok (.ifCond .ge off, 3)) (ht : (pc : Int) + off = (tgt : Int)) (kt : 0 ≤ x → EV d M tgt ls st σ Q) (kf : ¬ 0 ≤ x → EV d M (pc + 3) ls st σ Q) : EV d M pc ls (vI x :: st) σ Q :=
  fun E p l e s m args below meth c H locs lr he hR hS hL => lv_if_ge he.1 he.2.1 h ht (fun q => kt q E p l e s m args below meth c H locs lr he hR hS hL) (fun q => kf q E p l e s m args below meth c H locs lr he hR hS hL)
theorem EV.if_gt {x : Int32} {off : Int} {tgt : Nat} (h : decode M.2.1 pc = .ok (.ifCond .gt off, 3)) (ht : (pc : Int) + off = (tgt : Int)) (kt : 0 < x → EV d M tgt ls st σ Q) (kf : ¬ 0 < x → EV d M (pc + 3) ls st σ Q) : EV d M pc ls (vI x :: st) σ Q :=
  fun E p l e s m args below meth c H locs lr he hR hS hL => lv_if_gt he.1 he.2.1 h ht (fun q => kt q E p l e s m args below meth c H locs lr he hR hS hL) (fun q => kf q E p l e s m args below meth c H locs lr he hR hS hL)
theorem EV.if_le {x : Int32} {off : Int} {tgt : Nat} (h : decode M.2.1 pc = .ok (.ifCond .le off, 3)) (ht : (pc : Int) + off = (tgt : Int)) (kt : x ≤ 0 → EV d M tgt ls st σ Q) (kf : ¬ x ≤ 0 → EV d M (pc + 3) ls st σ Q) : EV d M pc ls (vI x :: st) σ Q :=
  fun E p l e s m args below meth c H locs lr he hR hS hL => lv_if_le he.1 he.2.1 h ht (fun q => kt q E p l e s m args below meth c H locs lr he hR hS hL) (fun q => kf q E p l e s m args below meth c H locs lr he hR hS hL)
theorem EV.icmp_eq {x y : Int32} {off : Int} {tgt : Nat} (h : decode M.2.1 pc = .ok (.if_icmp .eq off, 3)) (ht : (pc : Int) + off = (tgt : Int)) (kt : x = y → EV d M tgt ls st σ Q) (kf : ¬ x = y → EV d M (pc + 3) ls st σ Q) : EV d M pc ls (vI y :: vI x :: st) σ Q :=
  fun E p l e s m args below meth c H locs lr he hR hS hL => lv_icmp_eq he.1 he.2.1 h ht (fun q => kt q E p l e s m args below meth c H locs lr he hR hS hL) (fun q => kf q E p l e s m args below meth c H locs lr he hR hS hL)
theorem EV.icmp_ne {x y : Int32} {off : Int} {tgt : Nat} (h : decode M.2.1 pc = .ok (.if_icmp .ne off, 3)) (ht : (pc : Int) + off = (tgt : Int)) (kt : ¬ x = y → EV d M tgt ls st σ Q) (kf : x = y → EV d M (pc + 3) ls st σ Q) : EV d M pc ls (vI y :: vI x :: st) σ Q :=
  fun E p l e s m args below meth c H locs lr he hR hS hL => lv_icmp_ne he.1 he.2.1 h ht (fun q => kt q E p l e s m args below meth c H locs lr he hR hS hL) (fun q => kf q E p l e s m args below meth c H locs lr he hR hS hL)
theorem EV.icmp_lt {x y : Int32} {off : Int} {tgt : Nat} (h : decode M.2.1 pc = .ok (.if_icmp .lt off, 3)) (ht : (pc : Int) + off = (tgt : Int)) (kt : x < y → EV d M tgt ls st σ Q) (kf : ¬ x < y → EV d M (pc + 3) ls st σ Q) : EV d M pc ls (vI y :: vI x :: st) σ Q :=
  fun E p l e s m args below meth c H locs lr he hR hS hL => lv_icmp_lt he.1 he.2.1 h ht (fun q => kt q E p l e s m args below meth c H locs lr he hR hS hL) (fun q => kf q E p l e s m args below meth c H locs lr he hR hS hL)
theorem EV.icmp_ge {x y : Int32} {off : Int} {tgt : Nat} (h : decode M.2.1 pc = .ok (.if_icmp .ge off, 3)) (ht : (pc : Int) + off = (tgt : Int)) (kt : y ≤ x → EV d M tgt ls st σ Q) (kf : ¬ y ≤ x → EV d M (pc + 3) ls st σ Q) : EV d M pc ls (vI y :: vI x :: st) σ Q :=
  fun E p l e s m args below meth c H locs lr he hR hS hL => lv_icmp_ge he.1 he.2.1 h ht (fun q => kt q E p l e s m args below meth c H locs lr he hR hS hL) (fun q => kf q E p l e s m args below meth c H locs lr he hR hS hL)
theorem EV.icmp_gt {x y : Int32} {off : Int} {tgt : Nat} (h : decode M.2.1 pc = .ok (.if_icmp .gt off, 3)) (ht : (pc : Int) + off = (tgt : Int)) (kt : y < x → EV d M tgt ls st σ Q) (kf : ¬ y < x → EV d M (pc + 3) ls st σ Q) : EV d M pc ls (vI y :: vI x :: st) σ Q :=
  fun E p l e s m args below meth c H locs lr he hR hS hL => lv_icmp_gt he.1 he.2.1 h ht (fun q => kt q E p l e s m args below meth c H locs lr he hR hS hL) (fun q => kf q E p l e s m args below meth c H locs lr he hR hS hL)
theorem EV.icmp_le {x y : Int32} {off : Int} {tgt : Nat} (h : decode M.2.1 pc = .ok (.if_icmp .le off, 3)) (ht : (pc : Int) + off = (tgt : Int)) (kt : x ≤ y → EV d M tgt ls st σ Q) (kf : ¬ x ≤ y → EV d M (pc + 3) ls st σ Q) : EV d M pc ls (vI y :: vI x :: st) σ Q :=
  fun E p l e s m args below meth c H locs lr he hR hS hL => lv_icmp_le he.1 he.2.1 h ht (fun q => kt q E p l e s m args below meth c H locs lr he hR hS hL) (fun q => kf q E p l e s m args below meth c H locs lr he hR hS hL)
theorem EV.if_eqB {P : Prop} [Decidable P] {off : Int} {tgt : Nat} (h : decode M.2.1 pc = .ok (.ifCond .eq off, 3)) (ht : (pc : Int) + off = (tgt : Int)) (kt : ¬ P → EV d M tgt ls st σ Q) (kf : P → EV d M (pc + 3) ls st σ Q) : EV d M pc ls (vI (bI P) :: st) σ Q :=
  EV.if_eq h ht (fun q => kt (fun hp => by rw [bI_t hp] at q; cases q)) (fun q => kf (Classical.byContradiction fun hp => q (bI_f hp)))
theorem EV.if_neB {P : Prop} [Decidable P] {off : Int} {tgt : Nat} (h : decode M.2.1 pc = .ok (.ifCond .ne off, 3)) (ht : (pc : Int) + off = (tgt : Int)) (kt : P → EV d M tgt ls st σ Q) (kf : ¬ P → EV d M (pc + 3) ls st σ Q) : EV d M pc ls (vI (bI P) :: st) σ Q :=
  EV.if_ne h ht (fun q => kt (Classical.byContradiction fun hp => q (bI_f hp))) (fun q => kf (fun hp => by rw [bI_t hp] at q; cases q))
theorem EV.goto {off : Int} {tgt : Nat} (h : decode M.2.1 pc = .ok (.goto off, 3)) (ht : (pc : Int) + off = (tgt : Int)) (k : EV d M tgt ls st σ Q) : EV d M pc ls st σ Q :=
  fun E p l e s m args below meth c H locs lr he hR hS hL => lv_goto he.1 he.2.1 h ht (k E p l e s m args below meth c H locs lr he hR hS hL)
def noL (ls : List (Option AV)) : Bool := ls.all (fun o => match o with | some v => catA v == 1 | none => true)
def pairsOf (E : EE) (ls : List (Option AV)) : List (Nat × Value) := (List.range ls.length).filterMap (fun i => match ls[i]? with | some (some v) => some (i, tv E v) | _ => none)
theorem pairs_mem {E : EE} {ls : List (Option AV)} {i : Nat} {v : AV} (h : ls[i]? = some (some v)) : (i, tv E v) ∈ pairsOf E ls := by
  refine List.mem_filterMap.mpr ⟨i, List.mem_range.mpr (List.getElem?_eq_some_iff.mp h).1, ?_⟩
  rw [h]
theorem pairs_of {E : EE} {ls : List (Option AV)} {q : Nat × Value} (h : q ∈ pairsOf E ls) : ∃ v, ls[q.1]? = some (some v) ∧ q.2 = tv E v := by
  obtain ⟨i, -, hi⟩ := List.mem_filterMap.mp h
  rcases hc : ls[i]? with _ | (_ | v)
  · rw [hc] at hi; cases hi
  · rw [hc] at hi; cases hi
  · rw [hc] at hi; cases hi; exact ⟨v, hc, rfl⟩
theorem LV.has {E : EE} {lr : Array Slot} {n : Nat} {ls : List (Option AV)} (h : LV E lr n ls) : lv_has lr n (pairsOf E ls) := ⟨h.1, h.2.1, fun q hq => by
  obtain ⟨v, h1, h2⟩ := pairs_of hq
  rw [h2]
  exact h.2.2 _ _ h1⟩
theorem LV.set {E : EE} {lr : Array Slot} {n j : Nat} {ls : List (Option AV)} {v : AV} (hn : noL ls = true) (h : lv_has lr n ((j, tv E v) :: (pairsOf E ls).filter (fun q => !(q.1 == j) && !(q.1 + 1 == j && q.2.category == 2)))) : LV E lr n (ls.set j (some v)) := by
  refine ⟨h.1, h.2.1, fun i w hi => ?_⟩
  by_cases hij : i = j
  · subst hij
    by_cases hlt : i < ls.length
    · rw [List.getElem?_set_self hlt] at hi
      cases hi
      exact h.2.2 (i, tv E v) List.mem_cons_self
    · rw [List.getElem?_eq_none (by rw [List.length_set]; omega)] at hi
      cases hi
  · rw [List.getElem?_set_ne (Ne.symm hij)] at hi
    refine h.2.2 (i, tv E w) (List.mem_cons_of_mem _ (List.mem_filter.mpr ⟨pairs_mem hi, ?_⟩))
    have hc : catA w = 1 := by
      have := List.all_eq_true.mp hn _ (List.mem_of_getElem? hi)
      simpa using this
    simp [tv_cat, hc, hij]
theorem EV.istore_n {j : Fin 4} {x : Int32} (h : decode M.2.1 pc = .ok (.istore_n j, 1)) (hj : (j : Nat) < M.2.2.1) (hn : noL ls = true) (k : EV d M (pc + 1) (ls.set (j : Nat) (some (vI x))) st σ Q) : EV d M pc ls (vI x :: st) σ Q :=
  fun E p l e s m args below meth c H locs lr he hR hS hL => lv_istore_n he.1 he.2.1 h rfl hL.has hj rfl (fun lr2 h2 => k E p l e s m args below meth c H locs lr2 he hR hS (LV.set (v := vI x) hn h2))
theorem EV.istore {j : Nat} {x : Int32} (h : decode M.2.1 pc = .ok (.istore j, 2)) (hj : (j : Nat) < M.2.2.1) (hn : noL ls = true) (k : EV d M (pc + 2) (ls.set (j : Nat) (some (vI x))) st σ Q) : EV d M pc ls (vI x :: st) σ Q :=
  fun E p l e s m args below meth c H locs lr he hR hS hL => lv_istore he.1 he.2.1 h hL.has hj rfl (fun lr2 h2 => k E p l e s m args below meth c H locs lr2 he hR hS (LV.set (v := vI x) hn h2))
theorem EV.astore_n {j : Fin 4} {a b : Nat} (h : decode M.2.1 pc = .ok (.astore_n j, 1)) (hj : (j : Nat) < M.2.2.1) (hn : noL ls = true) (k : EV d M (pc + 1) (ls.set (j : Nat) (some (vR a b))) st σ Q) : EV d M pc ls (vR a b :: st) σ Q :=
  fun E p l e s m args below meth c H locs lr he hR hS hL => lv_astore_n he.1 he.2.1 h rfl hL.has hj rfl (fun lr2 h2 => k E p l e s m args below meth c H locs lr2 he hR hS (LV.set (v := vR a b) hn h2))
theorem EV.astore {j : Nat} {a b : Nat} (h : decode M.2.1 pc = .ok (.astore j, 2)) (hj : (j : Nat) < M.2.2.1) (hn : noL ls = true) (k : EV d M (pc + 2) (ls.set (j : Nat) (some (vR a b))) st σ Q) : EV d M pc ls (vR a b :: st) σ Q :=
  fun E p l e s m args below meth c H locs lr he hR hS hL => lv_astore he.1 he.2.1 h hL.has hj rfl (fun lr2 h2 => k E p l e s m args below meth c H locs lr2 he hR hS (LV.set (v := vR a b) hn h2))
theorem EV.iinc {j : Nat} {n : Int} {x v : Int32} (h : decode M.2.1 pc = .ok (.iinc j n, 3)) (hl : ls[j]? = some (some (vI x))) (hv : x + Int32.ofInt n = v) (hj : j < M.2.2.1) (hn : noL ls = true) (k : EV d M (pc + 3) (ls.set j (some (vI v))) st σ Q) : EV d M pc ls st σ Q := by
  intro E p l e s m args below meth c H locs lr he hR hS hL
  obtain ⟨i, hi⟩ := List.getElem?_of_mem (pairs_mem (E := E) hl)
  exact lv_iinc he.1 he.2.1 h hL.has hi hv hj rfl (fun lr2 h2 => k E p l e s m args below meth c H locs lr2 he hR hS (LV.set (v := vI v) hn h2))
theorem EV.ldc {idx : Nat} {v : Int32} (h : decode M.2.1 pc = .ok (.ldc idx, 2)) (hw : Cond.constant M.1.cls idx v ∈ WALL) (k : EV d M (pc + 2) ls (vI v :: st) σ Q) : EV d M pc ls st σ Q :=
  fun E p l e s m args below meth c H locs lr he hR hS hL => lv_ldc he.1 he.2.1 he.2.2.2.2.1 (he.2.2.2.2.2.1 _ hw) h (k E p l e s m args below meth c H locs lr he hR hS hL)
theorem EV.ldcw {idx : Nat} {v : Int32} (h : decode M.2.1 pc = .ok (.ldc_w idx, 3)) (hw : Cond.constant M.1.cls idx v ∈ WALL) (k : EV d M (pc + 3) ls (vI v :: st) σ Q) : EV d M pc ls st σ Q :=
  fun E p l e s m args below meth c H locs lr he hR hS hL => lv_ldcw he.1 he.2.1 he.2.2.2.2.1 (he.2.2.2.2.2.1 _ hw) h (k E p l e s m args below meth c H locs lr he hR hS hL)
theorem EV.ldc2 {idx : Nat} {v : Int64} (h : decode M.2.1 pc = .ok (.ldc2_w idx, 3)) (hw : Cond.constantLong M.1.cls idx v ∈ WALL) (k : EV d M (pc + 3) ls (vL v :: st) σ Q) : EV d M pc ls st σ Q :=
  fun E p l e s m args below meth c H locs lr he hR hS hL => lv_ldc2 he.1 he.2.1 he.2.2.2.2.1 (he.2.2.2.2.2.1 _ hw) h (k E p l e s m args below meth c H locs lr he hR hS hL)
theorem EV.tsIn {dflt lo hi : Int} {offs : Array Int} {len : Nat} {x : Int32} {off : Int} {tgt : Nat} (h : decode M.2.1 pc = .ok (.tableswitch dflt lo hi offs, len)) (h1 : ¬ x.toInt < lo) (h2 : ¬ hi < x.toInt) (ho : offs[(x.toInt - lo).toNat]? = some off) (ht : (pc : Int) + off = (tgt : Int)) (k : EV d M tgt ls st σ Q) : EV d M pc ls (vI x :: st) σ Q :=
  fun E p l e s m args below meth c H locs lr he hR hS hL => lv_tableIn he.1 he.2.1 h h1 h2 ho ht (k E p l e s m args below meth c H locs lr he hR hS hL)
theorem EV.tsOut {dflt lo hi : Int} {offs : Array Int} {len : Nat} {x : Int32} {tgt : Nat} (h : decode M.2.1 pc = .ok (.tableswitch dflt lo hi offs, len)) (h1 : x.toInt < lo ∨ hi < x.toInt) (ht : (pc : Int) + dflt = (tgt : Int)) (k : EV d M tgt ls st σ Q) : EV d M pc ls (vI x :: st) σ Q :=
  fun E p l e s m args below meth c H locs lr he hR hS hL => lv_tableOut he.1 he.2.1 h h1 ht (k E p l e s m args below meth c H locs lr he hR hS hL)
theorem EV.look {dflt : Int} {ps : Array (Int × Int)} {len : Nat} {x : Int32} {off : Int} {tgt : Nat} (h : decode M.2.1 pc = .ok (.lookupswitch dflt ps, len)) (hp : (ps.toList.zip (ps.toList.drop 1)).all (fun (a, next) => a.1 < next.1) = true) (ho : Op.lookupswitch.offset ps.toList dflt x.toInt = off) (ht : (pc : Int) + off = (tgt : Int)) (k : EV d M tgt ls st σ Q) : EV d M pc ls (vI x :: st) σ Q :=
  fun E p l e s m args below meth c H locs lr he hR hS hL => lv_lookup he.1 he.2.1 h hp ho ht (k E p l e s m args below meth c H locs lr he hR hS hL)
theorem EV.iret {x : Int32} (h : decode M.2.1 pc = .ok (.ireturn, 1)) (hr : M.2.2.2 = some .int) (q : Q (some (vI x)) σ) : EV d M pc ls [vI x] σ Q := by
  intro E p l e s m args below meth c H locs lr he hR hS hL
  obtain ⟨hx, hb, hml, hret, hown, hts, hlocks, hI, hK⟩ := he
  exact W.iret (v := x) hx hb (hret.trans hr) (fun t ht hW => ⟨⟨some (vI x), σ, rfl, q, by rw [ht]; exact hR, hK.go hW (by rw [ht]; exact hS.2.1)⟩, hS.F ht⟩) hS.2.2 h hlocks
theorem EV.zret {x : Int32} {ty : FieldType} (h : decode M.2.1 pc = .ok (.ireturn, 1)) (hr : M.2.2.2 = some ty) (hn : narrow ty (.int x) = .int x) (q : Q (some (vI x)) σ) : EV d M pc ls [vI x] σ Q := by
  intro E p l e s m args below meth c H locs lr he hR hS hL
  obtain ⟨hx, hb, hml, hret, hown, hts, hlocks, hI, hK⟩ := he
  exact W.zret (v := x) hx hb (hret.trans hr) hn (fun t ht hW => ⟨⟨some (vI x), σ, rfl, q, by rw [ht]; exact hR, hK.go hW (by rw [ht]; exact hS.2.1)⟩, hS.F ht⟩) hS.2.2 h hlocks
theorem EV.vret (h : decode M.2.1 pc = .ok (.return_, 1)) (hr : M.2.2.2 = none) (q : Q none σ) : EV d M pc ls [] σ Q := by
  intro E p l e s m args below meth c H locs lr he hR hS hL
  obtain ⟨hx, hb, hml, hret, hown, hts, hlocks, hI, hK⟩ := he
  exact W.vret hx hb (hret.trans hr) (fun t ht hW => ⟨⟨none, σ, rfl, q, by rw [ht]; exact hR, hK.go hW (by rw [ht]; exact hS.2.1)⟩, hS.F ht⟩) hS.2.2 h hlocks
end EVR
end
section
def CLok (ci : Nat) (r : vw_C) : Prop := vwCl[ci]? = some r ∧ (∀ w ∈ u_ws r.1 r.2.1 r.2.2, w ∈ WALL) ∧ (∃ ty0 : Nat → FieldType, ∀ k, k < r.2.2 → parseFieldDescriptor (r.2.1 k).2.2.1 = some (ty0 k)) ∧ (∀ a, a < r.2.2 → ∀ b, b < r.2.2 → a ≠ b → (r.2.1 a).2.1 ≠ (r.2.1 b).2.1)
def FL (own : String) (idx ci : Nat) (r : vw_C) (s : Nat) : Prop := s < r.2.2 ∧ Cond.fieldLink own idx (r.2.1 s).1 (r.2.1 s).2.1 (r.2.1 s).2.2.1 ∈ WALL
theorem Rep.setO {E : EE} {σ σ' : HS} {H H' : Heap} {k i ci s : Nat} {r : vw_C} {v : AV} (hR : Rep E σ H) (hI : Inj E) (hk : k < sh_NK) (hi : i < sh_cnt k) (ho : sh_obj k = some ci) (hr : vwCl[ci]? = some r) (hna : sh_arr k = none)
    (hOB : t_OB (E.2.2 k i) (E.1.1 ci) r.2.2 (E.1.2 ci) H' (updV (fun j => tv E (gv σ k i j)) s (tv E v))) (hsame : ∀ q : Nat, q ≠ E.2.2 k i → H'[q]? = H[q]?)
    (hg : ∀ k' i' s' : Nat, k' < sh_NK → i' < sh_cnt k' → gv σ' k' i' s' = if k' = k ∧ i' = i ∧ s' = s then v else gv σ k' i' s') : Rep E σ' H' := by
  intro k' i' hk' hi'
  by_cases e : k' = k ∧ i' = i
  · obtain ⟨rfl, rfl⟩ := e
    refine ⟨fun ci' r' h1 h2 => ?_, fun t n h => by rw [hna] at h; cases h⟩
    cases ho.symm.trans h1
    cases hr.symm.trans h2
    refine hOB.to (fun j hj => ?_)
    rw [hg k' i' j hk' hi']
    by_cases ej : j = s
    · simp [updV, ej]
    · simp [updV, ej]
  · have hne : E.2.2 k' i' ≠ E.2.2 k i := fun h => e (hI k' i' k i hk' hi' hk hi h)
    have hgg : ∀ s', gv σ' k' i' s' = gv σ k' i' s' := fun s' => by
      rw [hg k' i' s' hk' hi', if_neg (fun h => e ⟨h.1, h.2.1⟩)]
    obtain ⟨h1, h2⟩ := hR k' i' hk' hi'
    refine ⟨fun ci' r' a b => ((h1 ci' r' a b).kept (hsame _ hne)).to (fun j _ => by rw [hgg]), fun t n a => ?_⟩
    rw [hsame _ hne, h2 t n a]
    have : (fun s => tv E (gv σ' k' i' s)) = (fun s => tv E (gv σ k' i' s)) := funext fun s => by rw [hgg]
    rw [this]
theorem Rep.setA {E : EE} {σ σ' : HS} {H H' : Heap} {k i t n s : Nat} {v : AV} (hR : Rep E σ H) (hI : Inj E) (hk : k < sh_NK) (hi : i < sh_cnt k) (ha : sh_arr k = some (t, n)) (hno : sh_obj k = none)
    (hA : H'[E.2.2 k i]? = some (arrV (E.2.1 t) n (updV (fun j => tv E (gv σ k i j)) s (tv E v)))) (hsame : ∀ q : Nat, q ≠ E.2.2 k i → H'[q]? = H[q]?)
    (hg : ∀ k' i' s' : Nat, k' < sh_NK → i' < sh_cnt k' → gv σ' k' i' s' = if k' = k ∧ i' = i ∧ s' = s then v else gv σ k' i' s') : Rep E σ' H' := by
  intro k' i' hk' hi'
  by_cases e : k' = k ∧ i' = i
  · obtain ⟨rfl, rfl⟩ := e
    refine ⟨fun ci' r' h1 h2 => (by rw [hno] at h1; cases h1), fun t' n' h => ?_⟩
    cases ha.symm.trans h
    rw [hA]
    congr 2
    funext j
    rw [hg k' i' j hk' hi']
    by_cases ej : j = s
    · simp [updV, ej]
    · simp [updV, ej]
  · have hne : E.2.2 k' i' ≠ E.2.2 k i := fun h => e (hI k' i' k i hk' hi' hk hi h)
    have hgg : ∀ s', gv σ' k' i' s' = gv σ k' i' s' := fun s' => by
      rw [hg k' i' s' hk' hi', if_neg (fun h => e ⟨h.1, h.2.1⟩)]
    obtain ⟨h1, h2⟩ := hR k' i' hk' hi'
    refine ⟨fun ci' r' a b => ((h1 ci' r' a b).kept (hsame _ hne)).to (fun j _ => by rw [hgg]), fun t n a => ?_⟩
    rw [hsame _ hne, h2 t n a]
    have : (fun s => tv E (gv σ' k' i' s)) = (fun s => tv E (gv σ k' i' s)) := funext fun s => by rw [hgg]
    rw [this]
theorem gv_up {σ : HS} {k i s : Nat} {x : Int32} (h : intS k i s = true) (k' i' s' : Nat) : gv (up σ k i s x) k' i' s' = if k' = k ∧ i' = i ∧ s' = s then vI x else gv σ k' i' s' := by
  by_cases e : k' = k ∧ i' = i ∧ s' = s
  · obtain ⟨rfl, rfl, rfl⟩ := e
    rw [gv_int h]
    simp [up]
  · rw [if_neg e]
    unfold gv
    have : (up σ k i s x).1 k' i' s' = σ.1 k' i' s' := by simp [up, e]
    rw [this]
    rfl
theorem gv_upY {σ : HS} {k i s k1 j : Nat} (h1 : sh_rf k i s = none) (h2 : sh_dy k s = some k1) (hj : j < 2 ^ 31) (k' i' s' : Nat) : gv (up σ k i s (nI j)) k' i' s' = if k' = k ∧ i' = i ∧ s' = s then vR k1 j else gv σ k' i' s' := by
  by_cases e : k' = k ∧ i' = i ∧ s' = s
  · obtain ⟨rfl, rfl, rfl⟩ := e
    have : (up σ k' i' s' (nI j)).1 k' i' s' = nI j := by simp [up]
    simp [gv, h1, h2, this, nI_clamp hj]
  · rw [if_neg e]
    unfold gv
    have : (up σ k i s (nI j)).1 k' i' s' = σ.1 k' i' s' := by simp [up, e]
    rw [this]
    rfl
theorem vp_lt {x : Int32} {n : Nat} (h : vp_in x n) : x.toNatClampNeg < n := by
  unfold vp_in at h
  omega
section EVH
variable {d : Nat} {M : MI} {pc : Nat} {ls : List (Option AV)} {st : List AV} {σ : HS} {Q : Option AV → HS → Prop}
theorem EV.getf {idx ci k i s : Nat} {r : vw_C} {v : AV} (h : decode M.2.1 pc = .ok (.getfield idx, 3)) (hc : CLok ci r) (hf : FL M.1.cls idx ci r s) (hk : k < sh_NK) (ho : sh_obj k = some ci) (hi : i < sh_cnt k) (hv : gv σ k i s = v) (kk : EV d M (pc + 3) ls (v :: st) σ Q) : EV d M pc ls (vR k i :: st) σ Q := by
  intro E p l e s0 m args below meth c H locs lr he hR hS hL
  obtain ⟨hr, hin, -, -⟩ := hc
  obtain ⟨hs, hlink⟩ := hf
  obtain ⟨cell, q1, q2, q3, q4⟩ := (hR k i hk hi).1 ci r ho hr
  have hw := kk E p l e s0 m args below meth c H locs lr he hR hS hL
  obtain ⟨hx, hb, hml, hret, hown, hts, hlocks, hI, hK⟩ := he
  obtain ⟨hS', hfc, kC, hkC, hkind⟩ := hK.1 ci r hr
  obtain ⟨cf, kf, fi, f, hi', hsl⟩ := hS' s hs
  refine W.getf hx hb hown (hts _ hlink) hi' (u_facts hfc hkC (u_lays hts hin hs) hi').1 q1 (by rw [q3]; exact fun h => by cases h) (v := tv E v) ?_ rfl rfl h hw
  rw [hsl, q4 s hs]
  exact congrArg (fun z => some (tv E z)) hv
theorem EV.putG {idx ci k i s : Nat} {r : vw_C} {ty : FieldType} {v : AV} {σ' : HS} (h : decode M.2.1 pc = .ok (.putfield idx, 3)) (hc : CLok ci r) (hf : FL M.1.cls idx ci r s) (hk : k < sh_NK) (ho : sh_obj k = some ci) (hna : sh_arr k = none) (hi : i < sh_cnt k)
    (hfin : (r.2.1 s).2.2.2 = false) (hty : parseFieldDescriptor (r.2.1 s).2.2.1 = some ty) (hn : ∀ E, narrow ty (tv E v) = tv E v ∧ fits ty (tv E v) = true)
    (hg : ∀ k' i' s' : Nat, k' < sh_NK → i' < sh_cnt k' → gv σ' k' i' s' = if k' = k ∧ i' = i ∧ s' = s then v else gv σ k' i' s')
    (kk : EV d M (pc + 3) ls st σ' Q) : EV d M pc ls (v :: vR k i :: st) σ Q := by
  intro E p l e s0 m args below meth c H locs lr he hR hS hL
  have he0 := he
  obtain ⟨hr, hin, ⟨ty0, hty0⟩, hnm⟩ := hc
  obtain ⟨hs, hlink⟩ := hf
  obtain ⟨cell, q1, q2, q3, q4⟩ := (hR k i hk hi).1 ci r ho hr
  obtain ⟨hx, hb, hml, hret, hown, hts, hlocks, hI, hK⟩ := he
  obtain ⟨hS', hfc, kC, hkC, hkind⟩ := hK.1 ci r hr
  have hap : ∀ x y, x < r.2.2 → y < r.2.2 → x ≠ y → (E.1.2 ci) x ≠ (E.1.2 ci) y := by
    intro x y hx hy hne
    obtain ⟨_, _, _, fa, hia, ea⟩ := hS' x hx
    obtain ⟨_, _, _, fb, hib, eb⟩ := hS' y hy
    rw [← ea, ← eb]
    refine u_apart (u_lays hts hin hx) (u_lays hts hin hy) hia hib ?_
    rw [(State.fieldFound?_type hia (hty0 x hx)).1, (State.fieldFound?_type hib (hty0 y hy)).1]
    exact hnm x hx y hy hne
  obtain ⟨cf, kf, fi, f, hi', hsl⟩ := hS' s hs
  have hlay := hts _ (hin _ (u_in_lay hs))
  unfold u_lay at hlay
  rw [if_neg (by rw [hfin]; decide)] at hlay
  have hst := (u_facts hfc hkC (u_lays hts hin hs) hi').1
  have h6 := u_store hfc hkC hkind hlay hi' hty (hn E).1 (hn E).2
  refine W.putK hx hb (f := f) ⟨hown, hts _ hlink, ⟨_, _, _, hi'⟩, hst⟩ (by rw [q2]; exact h6) q1 q3 (by rw [hsl]; exact k2_hasslot (q4 s hs)) rfl rfl h fun H' e1 e2 e3 => ?_
  rw [hsl] at e1 ⊢
  have hR' : Rep E σ' H' := hR.setO hI hk hi ho hr hna (s := s) (v := v) ⟨_, e1, q2, q3, t_set q4 hap hs (tv E v)⟩ e3 hg
  exact kk E p l e s0 m args below meth c H' _ lr he0 hR' (hS.put e2 e3 ⟨k, i, hk, hi, rfl⟩) hL
theorem EV.putI {idx ci k i s : Nat} {r : vw_C} {ty : FieldType} {x : Int32} (h : decode M.2.1 pc = .ok (.putfield idx, 3)) (hc : CLok ci r) (hf : FL M.1.cls idx ci r s) (hk : k < sh_NK) (ho : sh_obj k = some ci) (hna : sh_arr k = none) (hi : i < sh_cnt k)
    (hfin : (r.2.1 s).2.2.2 = false) (hty : parseFieldDescriptor (r.2.1 s).2.2.1 = some ty) (hn : narrow ty (.int x) = .int x ∧ fits ty (.int x) = true) (hz : intS k i s = true)
    (kk : EV d M (pc + 3) ls st (up σ k i s x) Q) : EV d M pc ls (vI x :: vR k i :: st) σ Q :=
  EV.putG h hc hf hk ho hna hi hfin hty (fun _ => hn) (fun k' i' s' _ _ => gv_up hz k' i' s') kk
theorem EV.putY {idx ci k i s k1 j : Nat} {r : vw_C} {ty : FieldType} (h : decode M.2.1 pc = .ok (.putfield idx, 3)) (hc : CLok ci r) (hf : FL M.1.cls idx ci r s) (hk : k < sh_NK) (ho : sh_obj k = some ci) (hna : sh_arr k = none) (hi : i < sh_cnt k)
    (hfin : (r.2.1 s).2.2.2 = false) (hty : parseFieldDescriptor (r.2.1 s).2.2.1 = some ty) (hn : ∀ a : Nat, narrow ty (.ref a) = .ref a ∧ fits ty (.ref a) = true) (h1 : sh_rf k i s = none) (h2 : sh_dy k s = some k1) (hj : j < 2 ^ 31)
    (kk : EV d M (pc + 3) ls st (up σ k i s (nI j)) Q) : EV d M pc ls (vR k1 j :: vR k i :: st) σ Q :=
  EV.putG h hc hf hk ho hna hi hfin hty (fun E => hn _) (fun k' i' s' _ _ => gv_upY h1 h2 hj k' i' s') kk
theorem EV.putL {idx ci k i s : Nat} {r : vw_C} {ty : FieldType} {x : Int64} (h : decode M.2.1 pc = .ok (.putfield idx, 3)) (hc : CLok ci r) (hf : FL M.1.cls idx ci r s) (hk : k < sh_NK) (ho : sh_obj k = some ci) (hna : sh_arr k = none) (hi : i < sh_cnt k)
    (hfin : (r.2.1 s).2.2.2 = false) (hty : parseFieldDescriptor (r.2.1 s).2.2.1 = some ty) (hn : narrow ty (.long x) = .long x ∧ fits ty (.long x) = true) (hg : ∀ k' i' s' : Nat, k' < sh_NK → i' < sh_cnt k' → gv (σ.1, x) k' i' s' = if k' = k ∧ i' = i ∧ s' = s then vL x else gv σ k' i' s')
    (kk : EV d M (pc + 3) ls st (σ.1, x) Q) : EV d M pc ls (vL x :: vR k i :: st) σ Q :=
  EV.putG h hc hf hk ho hna hi hfin hty (fun _ => hn) hg kk
theorem arr_of {E : EE} {σ : HS} {H : Heap} {s0 : State} {k i t n : Nat} (hR : Rep E σ H) (hK : KK E s0 s0.heap) (hk : k < sh_NK) (hi : i < sh_cnt k) (ha : sh_arr k = some (t, n)) (ht : t < 5) :
    H[E.2.2 k i]? = some (arrV (E.2.1 t) n (fun s => tv E (gv σ k i s))) ∧ s0.isArrayOf (arrV (E.2.1 t) n (fun s => tv E (gv σ k i s))) (sh_el t) ∧ (arrV (E.2.1 t) n (fun s => tv E (gv σ k i s))).vm ≠ .unknown ∧ (arrV (E.2.1 t) n (fun s => tv E (gv σ k i s))).slots.size = n := by
  refine ⟨(hR k i hk hi).2 t n ha, hK.2.1 t ht _ _, (fun h => by cases h), arrV_size _ _ _⟩
theorem EV.iald {k i n : Nat} {x : Int32} {v : AV} (h : decode M.2.1 pc = .ok (.iaload, 1)) (hk : k < sh_NK) (ha : sh_arr k = some (0, n)) (hi : i < sh_cnt k) (hin : vp_in x n) (hv : gv σ k i x.toNatClampNeg = v) (kk : EV d M (pc + 1) ls (v :: st) σ Q) : EV d M pc ls (vI x :: vR k i :: st) σ Q := by
  intro E p l e s0 m args below meth c H locs lr he hR hS hL
  obtain ⟨a1, a2, a3, a4⟩ := arr_of hR he.2.2.2.2.2.2.2.2 hk hi ha (by omega)
  exact W.iald he.1 he.2.1 a1 a2 a3 (by rw [a4]; exact hin) (by rw [arrV_read _ _ (vp_lt hin), hv]) rfl rfl h (kk E p l e s0 m args below meth c H locs lr he hR hS hL)
theorem EV.bald {k i n : Nat} {x : Int32} {v : AV} (h : decode M.2.1 pc = .ok (.baload, 1)) (hk : k < sh_NK) (ha : sh_arr k = some (1, n)) (hi : i < sh_cnt k) (hin : vp_in x n) (hv : gv σ k i x.toNatClampNeg = v) (kk : EV d M (pc + 1) ls (v :: st) σ Q) : EV d M pc ls (vI x :: vR k i :: st) σ Q := by
  intro E p l e s0 m args below meth c H locs lr he hR hS hL
  obtain ⟨a1, a2, a3, a4⟩ := arr_of hR he.2.2.2.2.2.2.2.2 hk hi ha (by omega)
  exact W.bald he.1 he.2.1 a1 a2 a3 (by rw [a4]; exact hin) (by rw [arrV_read _ _ (vp_lt hin), hv]) rfl rfl h (kk E p l e s0 m args below meth c H locs lr he hR hS hL)
theorem EV.sald {k i n : Nat} {x : Int32} {v : AV} (h : decode M.2.1 pc = .ok (.saload, 1)) (hk : k < sh_NK) (ha : sh_arr k = some (2, n)) (hi : i < sh_cnt k) (hin : vp_in x n) (hv : gv σ k i x.toNatClampNeg = v) (kk : EV d M (pc + 1) ls (v :: st) σ Q) : EV d M pc ls (vI x :: vR k i :: st) σ Q := by
  intro E p l e s0 m args below meth c H locs lr he hR hS hL
  obtain ⟨a1, a2, a3, a4⟩ := arr_of hR he.2.2.2.2.2.2.2.2 hk hi ha (by omega)
  exact W.sald he.1 he.2.1 a1 a2 a3 (by rw [a4]; exact hin) (by rw [arrV_read _ _ (vp_lt hin), hv]) rfl rfl h (kk E p l e s0 m args below meth c H locs lr he hR hS hL)
theorem EV.aald {k i t n : Nat} {x : Int32} {v : AV} (h : decode M.2.1 pc = .ok (.aaload, 1)) (hk : k < sh_NK) (ha : sh_arr k = some (t, n)) (ht : t < 5) (hrt : (sh_el t).isReference = true) (hi : i < sh_cnt k) (hin : vp_in x n) (hv : gv σ k i x.toNatClampNeg = v) (kk : EV d M (pc + 1) ls (v :: st) σ Q) : EV d M pc ls (vI x :: vR k i :: st) σ Q := by
  intro E p l e s0 m args below meth c H locs lr he hR hS hL
  obtain ⟨a1, a2, a3, a4⟩ := arr_of hR he.2.2.2.2.2.2.2.2 hk hi ha ht
  exact W.aald he.1 he.2.1 a1 a2 hrt a3 (by rw [a4]; exact hin) (by rw [arrV_read _ _ (vp_lt hin), hv]) rfl rfl h (kk E p l e s0 m args below meth c H locs lr he hR hS hL)
theorem EV.alen {k i t n : Nat} {v : Int32} (h : decode M.2.1 pc = .ok (.arraylength, 1)) (hk : k < sh_NK) (ha : sh_arr k = some (t, n)) (ht : t < 5) (hi : i < sh_cnt k) (hv : n.toInt32 = v) (kk : EV d M (pc + 1) ls (vI v :: st) σ Q) : EV d M pc ls (vR k i :: st) σ Q := by
  intro E p l e s0 m args below meth c H locs lr he hR hS hL
  obtain ⟨a1, a2, a3, a4⟩ := arr_of hR he.2.2.2.2.2.2.2.2 hk hi ha ht
  exact W.alen he.1 he.2.1 a1 a2 (by rw [a4]; exact hv) rfl rfl h (kk E p l e s0 m args below meth c H locs lr he hR hS hL)
theorem EV.iast {k i n : Nat} {x v : Int32} (h : decode M.2.1 pc = .ok (.iastore, 1)) (hk : k < sh_NK) (ha : sh_arr k = some (0, n)) (hno : sh_obj k = none) (hi : i < sh_cnt k) (hin : vp_in x n) (hz : intS k i x.toNatClampNeg = true) (kk : EV d M (pc + 1) ls st (up σ k i x.toNatClampNeg v) Q) : EV d M pc ls (vI v :: vI x :: vR k i :: st) σ Q := by
  intro E p l e s0 m args below meth c H locs lr he hR hS hL
  obtain ⟨a1, a2, a3, a4⟩ := arr_of hR he.2.2.2.2.2.2.2.2 hk hi ha (by omega)
  refine W.iast he.1 he.2.1 a1 a2 a3 (by rw [a4]; exact hin) rfl rfl h (fun H' e1 e2 e3 => ?_)
  rw [arrV_store] at e1
  have hR' : Rep E (up σ k i x.toNatClampNeg v) H' := hR.setA he.2.2.2.2.2.2.2.1 hk hi ha hno (v := vI v) e1 e3 (fun k' i' s' _ _ => gv_up hz k' i' s')
  exact kk E p l e s0 m args below meth c H' _ lr he hR' (hS.put e2 e3 ⟨k, i, hk, hi, rfl⟩) hL
theorem EV.bast {k i n : Nat} {x v : Int32} (h : decode M.2.1 pc = .ok (.bastore, 1)) (hk : k < sh_NK) (ha : sh_arr k = some (1, n)) (hno : sh_obj k = none) (hi : i < sh_cnt k) (hin : vp_in x n) (hz : intS k i x.toNatClampNeg = true) (kk : EV d M (pc + 1) ls st (up σ k i x.toNatClampNeg v.toInt8.toInt32) Q) : EV d M pc ls (vI v :: vI x :: vR k i :: st) σ Q := by
  intro E p l e s0 m args below meth c H locs lr he hR hS hL
  obtain ⟨a1, a2, a3, a4⟩ := arr_of hR he.2.2.2.2.2.2.2.2 hk hi ha (by omega)
  refine W.bast he.1 he.2.1 a1 a2 a3 (by rw [a4]; exact hin) rfl rfl h (fun H' e1 e2 e3 => ?_)
  rw [arrV_store] at e1
  have hR' : Rep E (up σ k i x.toNatClampNeg v.toInt8.toInt32) H' := hR.setA he.2.2.2.2.2.2.2.1 hk hi ha hno (v := vI v.toInt8.toInt32) e1 e3 (fun k' i' s' _ _ => gv_up hz k' i' s')
  exact kk E p l e s0 m args below meth c H' _ lr he hR' (hS.put e2 e3 ⟨k, i, hk, hi, rfl⟩) hL
theorem EV.sast {k i n : Nat} {x v : Int32} (h : decode M.2.1 pc = .ok (.sastore, 1)) (hk : k < sh_NK) (ha : sh_arr k = some (2, n)) (hno : sh_obj k = none) (hi : i < sh_cnt k) (hin : vp_in x n) (hz : intS k i x.toNatClampNeg = true) (kk : EV d M (pc + 1) ls st (up σ k i x.toNatClampNeg v.toInt16.toInt32) Q) : EV d M pc ls (vI v :: vI x :: vR k i :: st) σ Q := by
  intro E p l e s0 m args below meth c H locs lr he hR hS hL
  obtain ⟨a1, a2, a3, a4⟩ := arr_of hR he.2.2.2.2.2.2.2.2 hk hi ha (by omega)
  refine W.sast he.1 he.2.1 a1 a2 a3 (by rw [a4]; exact hin) rfl rfl h (fun H' e1 e2 e3 => ?_)
  rw [arrV_store] at e1
  have hR' : Rep E (up σ k i x.toNatClampNeg v.toInt16.toInt32) H' := hR.setA he.2.2.2.2.2.2.2.1 hk hi ha hno (v := vI v.toInt16.toInt32) e1 e3 (fun k' i' s' _ _ => gv_up hz k' i' s')
  exact kk E p l e s0 m args below meth c H' _ lr he hR' (hS.put e2 e3 ⟨k, i, hk, hi, rfl⟩) hL
end EVH
/-! calls -/
def ML0 (M' : MI) (n : Nat) : Prop := Cond.code M'.1 M'.2.1 M'.2.2.1 M'.2.2.2 ∈ WALL ∧ Cond.initialized M'.1.cls ∈ WALL ∧ (M'.1.cls ≠ "java/lang/invoke/MethodHandle" ∧ M'.1.cls ≠ "java/lang/invoke/VarHandle" ∧ (parseMethodDescriptor M'.1.desc).map (fun d => d.parameters.length) = some n) ∧ plainName M'.1.cls = true ∧ M'.2.2.1 ≤ 40
def MLV (own : String) (idx : Nat) (M' : MI) (n : Nat) : Prop := ML0 M' n ∧ Cond.methodLink own idx M'.1 ∈ WALL ∧ Cond.instanceMethod M'.1 ∈ WALL ∧ Cond.selects M'.1.cls M'.1 M'.1 ∈ WALL
def MLS (own : String) (idx : Nat) (M' : MI) (n : Nat) : Prop := ML0 M' n ∧ Cond.static M'.1 ∈ WALL ∧ (Cond.methodLink own idx M'.1 ∈ WALL ∨ ∃ host, (own, idx, M'.1, host) ∈ NALL)
section CAL
variable {p : Program} {l : Launch} {e : Env} {R : Room} {s : State} {m : MethodId} {args : Array Value} {below : List Frame} {meth : Method} {c : Code} {H : Heap} {locs : List Loc} {cells slots : Nat} {Z : State → Prop} {E : EE} {lr : Array Slot} {pc : Nat}
theorem run_go {Q : Option AV → HS → Prop} {stk rest : List Value} {a : Array Value} (hr : va_Run p l e R s m args below meth c H locs cells slots 0 0 (F0 m pc lr stk) rest (QC E Q a) (Reg E)) {A0 : Nat → Prop} {H0 : Heap} (hS : va_S A0 H0 H locs) (hA : ∀ q, Reg E q → A0 q)
    (kk : ∀ (rv : Option AV) (σ : HS) (H1 : Heap) (locs1 : List Loc), Q rv σ → Rep E σ H1 → va_S A0 H0 H1 locs1 → (∀ q : Nat, q < H.size → ¬ Reg E q → H1[q]? = H[q]?) → H.size ≤ H1.size → W p l e R s m args below meth c H1 locs1 cells slots Z (F0 m (pc + 3) lr (rv.toList.map (tv E) ++ rest))) : W p l e R s m args below meth c H locs cells slots Z (F0 m pc lr stk) := by
  intro T hT X
  obtain ⟨v, st₀, t, T', L, h0, X', hL, e1, e2, ⟨⟨rv, σ, hv, hq, hRep, hKK⟩, hz, hk⟩, st⟩ := hr T hT X
  cases hv
  rw [h0] at hz hk
  obtain ⟨t2, a1, b1⟩ := kk rv σ T'.heap (locs ++ L) hq (by rw [e1]; exact hRep)
    ⟨Nat.le_trans hS.1 (by rw [e1]; exact hz), fun q h1 h2 => by rw [e1, hk q (Nat.lt_of_lt_of_le h1 hS.1) (fun z => h2 (hA q z))]; exact hS.2.1 q h1 h2, fun q hq => by
      rcases List.mem_append.mp hq with h | h
      · exact hS.2.2 q h
      · exact hA _ (hL q h)⟩ (fun q h1 h2 => by rw [e1]; exact hk q h1 h2) (by rw [e1]; exact hz) T' rfl X'
  refine ⟨t2, st t2 ?_, b1⟩
  have : (rv.map (tv E)).toList = rv.toList.map (tv E) := by cases rv <;> rfl
  rw [this]
  exact a1
theorem blind {E : EE} {σ : HS} {vs : List Value} : FrameBlind (va_Pc vs (fun U => Rep E σ U.heap ∧ KK E U U.heap)) := fun a U g mk h => ⟨h.1, h.2.1, h.2.2.same rfl⟩
theorem ML0.base {M' : MI} {n d : Nat} (h : ML0 M' n) (hd : 1 ≤ d) (hts : ∀ w ∈ WALL, w.before args s = true) (hRf : d ≤ R.frames) (hRl : d * 64 ≤ R.locals) :
    ((rmD (d - 1)).cells = 0 ∧ (rmD (d - 1)).slots = 0 ∧ (rmD (d - 1)).frames + 1 ≤ R.frames ∧ 8 + (M'.2.2.1 + 11) + (rmD (d - 1)).locals ≤ R.locals ∧ (∀ w ∈ Cond.code M'.1 M'.2.1 M'.2.2.1 M'.2.2.2 :: WALL, ∀ (a' : Array Value) (U : State), s.WarmedH U.vm → w.before a' U = true) ∧ Cond.code M'.1 M'.2.1 M'.2.2.1 M'.2.2.2 ∈ Cond.code M'.1 M'.2.1 M'.2.2.1 M'.2.2.2 :: WALL) ∧
    (Cond.code M'.1 M'.2.1 M'.2.2.1 M'.2.2.2).before args s = true ∧ (Cond.initialized M'.1.cls).before args s = true ∧ (M'.1.cls ≠ "java/lang/invoke/MethodHandle" ∧ M'.1.cls ≠ "java/lang/invoke/VarHandle") ∧ (∀ sig, parseMethodDescriptor M'.1.desc = some sig → n = sig.parameters.length) := by
  obtain ⟨h1, h2, ⟨h3, h4, h5⟩, h6, h7⟩ := h
  refine ⟨⟨rfl, rfl, ?_, ?_, pay_in hts (fun w hw => ?_), List.mem_cons_self⟩, hts _ h1, hts _ h2, ⟨h3, h4⟩, fun sig hs => ?_⟩
  · show d - 1 + 1 ≤ _; omega
  · show 8 + (M'.2.2.1 + 11) + (d - 1) * 64 ≤ _; omega
  · rcases List.mem_cons.mp hw with rfl | hw
    · exact ⟨h1, WALL_good h1⟩
    · exact ⟨hw, WALL_good hw⟩
  · rw [hs] at h5
    exact (Option.some.inj h5).symm
/-- a call of an instance method, at the machine's level: any caller -/
theorem W_callV {cc : ByteArray} {nL d idx n k i ci : Nat} {own : String} {M' : MI} {As : List AV} {σ : HS} {Q : Option AV → HS → Prop} {r : vw_C} {rest : List Value} (hx : p.tables.exec = Jvm.exec) (hb : c.code = cc) (hml : c.maxLocals = nL) (hown : s.vm.findClass own = some m.cls) (hts : ∀ w ∈ WALL, w.before args s = true) (hI : Inj E) (hK : KK E s H) (hR : Rep E σ H)
    (hd : 1 ≤ d) (hRf : d ≤ R.frames) (hRl : d * 64 ≤ R.locals) (hm : MLV own idx M' n) (hn : As.length = n) (hln : (entS (vR k i :: As)).length ≤ M'.2.2.1) (hk : k < sh_NK) (hi : i < sh_cnt k) (ho : sh_obj k = some ci) (hr : vwCl[ci]? = some r) (hcl : r.1 = M'.1.cls) (hMT : MT (d - 1) M' (vR k i :: As) σ Q)
    (hsz : lr.size = nL) (hrest : (rest.map fun v => v.category).sum ≤ 8) (hdg : decode cc pc = .ok (.invokevirtual idx, 3)) (hc : cells ≤ R.cells) (hs : slots ≤ R.slots) {A0 : Nat → Prop} {H0 : Heap} (hS : va_S A0 H0 H locs) (hA : ∀ q, Reg E q → A0 q)
    (kk : ∀ (rv : Option AV) (σ : HS) (H1 : Heap) (locs1 : List Loc), Q rv σ → Rep E σ H1 → va_S A0 H0 H1 locs1 → (∀ q : Nat, q < H.size → ¬ Reg E q → H1[q]? = H[q]?) → H.size ≤ H1.size → W p l e R s m args below meth c H1 locs1 cells slots Z (F0 m (pc + 3) lr (rv.toList.map (tv E) ++ rest))) :
    W p l e R s m args below meth c H locs cells slots Z (F0 m pc lr ((As.map (tv E)).reverse ++ .ref (E.2.2 k i) :: rest)) := by
  obtain ⟨h0, hl, hin, hse⟩ := hm
  obtain ⟨b1, b2, b3, b4, b5⟩ := h0.base (R := R) hd hts hRf hRl
  obtain ⟨cell, q1, q2, q3, q4⟩ := (hR k i hk hi).1 ci r ho hr
  have hfc : s.vm.findClass M'.1.cls = some cell.cls := by rw [q2, ← hcl]; exact (hK.1 ci r hr).2.1
  refine run_go (Q := Q) (rest := rest) (va_runV (Ts := WALL) (C := M'.1.cls) (bytes := M'.2.1) (maxL := M'.2.2.1) (ret := M'.2.2.2) ⟨hx, hb, hml, hown, hts⟩ (hMT.met h0.2.2.2.1 hln E hI l) ⟨⟨b1.1, b1.2.1, b1.2.2.1, b1.2.2.2.1, b1.2.2.2.2.1, b1.2.2.2.2.2, b2, b3, b4, b5, hts _ hl⟩, hts _ hin, hts _ hse⟩
    ⟨blind, ⟨cell, q1, by rw [q3]; rfl, hfc⟩, fun U hU hW => ⟨rfl, by rw [hU]; exact hR, by rw [hU]; exact hK.go hW (fun _ _ _ => rfl)⟩⟩ rfl (by rw [List.length_map]; exact hn) hsz rfl (lv_room hrest) hdg ⟨hc, hs⟩) hS hA kk
theorem W_callS {cc : ByteArray} {nL d idx n : Nat} {own : String} {M' : MI} {As : List AV} {σ : HS} {Q : Option AV → HS → Prop} {rest : List Value} (hx : p.tables.exec = Jvm.exec) (hb : c.code = cc) (hml : c.maxLocals = nL) (hown : s.vm.findClass own = some m.cls) (hts : ∀ w ∈ WALL, w.before args s = true) (hI : Inj E) (hK : KK E s H) (hR : Rep E σ H)
    (hd : 1 ≤ d) (hRf : d ≤ R.frames) (hRl : d * 64 ≤ R.locals) (hm : MLS own idx M' n) (hn : As.length = n) (hln : (entS As).length ≤ M'.2.2.1) (hMT : MT (d - 1) M' As σ Q)
    (hsz : lr.size = nL) (hrest : (rest.map fun v => v.category).sum ≤ 8) (hdg : decode cc pc = .ok (.invokestatic idx, 3)) (hc : cells ≤ R.cells) (hs : slots ≤ R.slots) {A0 : Nat → Prop} {H0 : Heap} (hS : va_S A0 H0 H locs) (hA : ∀ q, Reg E q → A0 q)
    (kk : ∀ (rv : Option AV) (σ : HS) (H1 : Heap) (locs1 : List Loc), Q rv σ → Rep E σ H1 → va_S A0 H0 H1 locs1 → (∀ q : Nat, q < H.size → ¬ Reg E q → H1[q]? = H[q]?) → H.size ≤ H1.size → W p l e R s m args below meth c H1 locs1 cells slots Z (F0 m (pc + 3) lr (rv.toList.map (tv E) ++ rest))) :
    W p l e R s m args below meth c H locs cells slots Z (F0 m pc lr ((As.map (tv E)).reverse ++ rest)) := by
  obtain ⟨h0, hst, hl⟩ := hm
  obtain ⟨b1, b2, b3, b4, b5⟩ := h0.base (R := R) hd hts hRf hRl
  have hpre : PreS s H (va_Pc (As.map (tv E)) (fun U => Rep E σ U.heap ∧ KK E U U.heap)) (As.map (tv E)) := ⟨blind, fun U hU hW => ⟨rfl, by rw [hU]; exact hR, by rw [hU]; exact hK.go hW (fun _ _ _ => rfl)⟩⟩
  rcases hl with hl | ⟨host, hl⟩
  · exact run_go (Q := Q) (rest := rest) (va_runS (Ts := WALL) (bytes := M'.2.1) (maxL := M'.2.2.1) (ret := M'.2.2.2) ⟨hx, hb, hml, hown, hts⟩ (hMT.met h0.2.2.2.1 hln E hI l) ⟨⟨b1.1, b1.2.1, b1.2.2.1, b1.2.2.2.1, b1.2.2.2.2.1, b1.2.2.2.2.2, b2, b3, b4, b5, hts _ hl⟩, hts _ hst⟩ hpre rfl (by rw [List.length_map]; exact hn) hsz rfl (lv_room hrest) hdg ⟨hc, hs⟩) hS hA kk
  · have hnw := hK.2.2.1 _ hl
    exact run_go (Q := Q) (rest := rest) (va_runSN (Ts := WALL) (bytes := M'.2.1) (maxL := M'.2.2.1) (ret := M'.2.2.2) (host := host) ⟨hx, hb, hml, hown, hts⟩ (hMT.met h0.2.2.2.1 hln E hI l) ⟨⟨b1, b2, b3, b4, b5, va_Nw.use rfl hnw⟩, hts _ hst, trivial⟩ hpre rfl (by rw [List.length_map]; exact hn) hsz rfl (lv_room hrest) hdg ⟨hc, hs⟩) hS hA kk
end CAL
section EVC
variable {d : Nat} {M : MI} {pc : Nat} {ls : List (Option AV)} {st : List AV} {σ : HS} {Q : Option AV → HS → Prop}
theorem EV.callV {idx n k i ci : Nat} {r : vw_C} {M' : MI} {As st' : List AV} {Q' : Option AV → HS → Prop} (h : decode M.2.1 pc = .ok (.invokevirtual idx, 3)) (hd : 1 ≤ d) (hm : MLV M.1.cls idx M' n) (hn : As.length = n) (hln : (entS (vR k i :: As)).length ≤ M'.2.2.1) (hk : k < sh_NK) (hi : i < sh_cnt k) (ho : sh_obj k = some ci) (hr : vwCl[ci]? = some r) (hcl : r.1 = M'.1.cls) (hrest : (st.map catA).sum ≤ 8) (hst : st' = As.reverse ++ vR k i :: st)
    (hMT : MT (d - 1) M' (vR k i :: As) σ Q') (kk : ∀ (rv : Option AV) (σ' : HS), Q' rv σ' → EV d M (pc + 3) ls (rv.toList ++ st) σ' Q) : EV d M pc ls st' σ Q := by
  subst hst
  intro E p l e s m args below meth c H locs lr he hR hS hL
  have he0 := he
  obtain ⟨hx, hb, hml, hret, hown, hts, hlocks, hI, hK⟩ := he
  have hKH : KK E s H := hK.go (State.WarmedH.refl s) hS.2.1
  have e1 : (As.reverse ++ vR k i :: st).map (tv E) = (As.map (tv E)).reverse ++ .ref (E.2.2 k i) :: st.map (tv E) := by rw [List.map_append, List.map_reverse]; rfl
  rw [e1]
  refine W_callV hx hb hml hown hts hI hKH hR hd (Nat.le_refl _) (Nat.le_refl _) hm hn hln hk hi ho hr hcl hMT hL.1 (by rw [tv_cats]; exact hrest) h (Nat.le_refl _) (Nat.le_refl _) hS (fun _ h => h) (fun rv σ' H1 locs1 hq hR1 hS1 _ _ => ?_)
  have := kk rv σ' hq E p l e s m args below meth c H1 locs1 lr he0 hR1 hS1 hL
  rwa [List.map_append] at this
theorem EV.callS {idx n : Nat} {M' : MI} {As st' : List AV} {Q' : Option AV → HS → Prop} (h : decode M.2.1 pc = .ok (.invokestatic idx, 3)) (hd : 1 ≤ d) (hm : MLS M.1.cls idx M' n) (hn : As.length = n) (hln : (entS As).length ≤ M'.2.2.1) (hrest : (st.map catA).sum ≤ 8) (hst : st' = As.reverse ++ st)
    (hMT : MT (d - 1) M' As σ Q') (kk : ∀ (rv : Option AV) (σ' : HS), Q' rv σ' → EV d M (pc + 3) ls (rv.toList ++ st) σ' Q) : EV d M pc ls st' σ Q := by
  subst hst
  intro E p l e s m args below meth c H locs lr he hR hS hL
  have he0 := he
  obtain ⟨hx, hb, hml, hret, hown, hts, hlocks, hI, hK⟩ := he
  have hKH : KK E s H := hK.go (State.WarmedH.refl s) hS.2.1
  have e1 : (As.reverse ++ st).map (tv E) = (As.map (tv E)).reverse ++ st.map (tv E) := by rw [List.map_append, List.map_reverse]
  rw [e1]
  refine W_callS hx hb hml hown hts hI hKH hR hd (Nat.le_refl _) (Nat.le_refl _) hm hn hln hMT hL.1 (by rw [tv_cats]; exact hrest) h (Nat.le_refl _) (Nat.le_refl _) hS (fun _ h => h) (fun rv σ' H1 locs1 hq hR1 hS1 _ _ => ?_)
  have := kk rv σ' hq E p l e s m args below meth c H1 locs1 lr he0 hR1 hS1 hL
  rwa [List.map_append] at this
end EVC
end
section
theorem in_places {ws : List Cond} (ps : List Nat) (hp : ws = ps.filterMap (fun i => lw_tbl[i]?)) (h : ws.all goodWord = true) : ∀ w ∈ ws, w ∈ WALL := by
  intro w hw
  have h1 := List.all_eq_true.mp h w hw
  rw [hp] at hw
  obtain ⟨i, -, hi⟩ := List.mem_filterMap.mp hw
  exact WALL_in (List.mem_of_getElem? hi) h1
theorem in_place {w : Cond} (i : Nat) (h : lw_tbl[i]? = some w) (hg : goodWord w = true) : w ∈ WALL := WALL_in (List.mem_of_getElem? h) hg
theorem cl_0 : CLok 0 (RX0, TX0, 6) := ⟨rfl, in_places [213, 215, 217, 219, 221, 223] (by decide +kernel) (by decide +kernel), ⟨tyX0, tyX0_ok⟩, nmX0⟩
theorem cl_1 : CLok 1 (RX1, TX1, 5) := ⟨rfl, in_places [342, 344, 346, 348, 350] (by decide +kernel) (by decide +kernel), ⟨tyX1, tyX1_ok⟩, nmX1⟩
theorem cl_2 : CLok 2 (RX2, TX2, 6) := ⟨rfl, in_places [163, 165, 167, 169, 171, 173] (by decide +kernel) (by decide +kernel), ⟨tyX2, tyX2_ok⟩, nmX2⟩
theorem cl_3 : CLok 3 (RX3, TX3, 10) := ⟨rfl, in_places [432, 434, 436, 438, 440, 442, 444, 446, 448, 450] (by decide +kernel) (by decide +kernel), ⟨tyX3, tyX3_ok⟩, nmX3⟩
theorem cl_4 : CLok 4 (RX4, TX4, 8) := ⟨rfl, in_places [308, 310, 312, 314, 316, 318, 320, 322] (by decide +kernel) (by decide +kernel), ⟨tyX4, tyX4_ok⟩, nmX4⟩
theorem cl_5 : CLok 5 (RX5, TX5, 9) := ⟨rfl, in_places [278, 280, 282, 284, 286, 288, 290, 292, 294] (by decide +kernel) (by decide +kernel), ⟨tyX5, tyX5_ok⟩, nmX5⟩
theorem cl_6 : CLok 6 (RX6, TX6, 17) := ⟨rfl, in_places [378, 380, 382, 384, 386, 388, 390, 392, 394, 396, 398, 400, 402, 404, 406, 408, 410] (by decide +kernel) (by decide +kernel), ⟨tyX6, tyX6_ok⟩, nmX6⟩
theorem cl_7 : CLok 7 (RX7, TX7, 4) := ⟨rfl, in_places [191, 193, 195, 197] (by decide +kernel) (by decide +kernel), ⟨tyX7, tyX7_ok⟩, nmX7⟩
theorem cl_8 : CLok 8 (RX8, TX8, 4) := ⟨rfl, in_places [246, 248, 250, 252] (by decide +kernel) (by decide +kernel), ⟨tyX8, tyX8_ok⟩, nmX8⟩
theorem cl_9 : CLok 9 (RX9, TX9, 6) := ⟨rfl, in_places [125, 127, 129, 131, 133, 135] (by decide +kernel) (by decide +kernel), ⟨tyX9, tyX9_ok⟩, nmX9⟩
theorem cl_10 : CLok 10 (RX10, TX10, 9) := ⟨rfl, in_places [462, 464, 466, 468, 470, 472, 474, 476, 478] (by decide +kernel) (by decide +kernel), ⟨tyX10, tyX10_ok⟩, nmX10⟩
theorem cl_11 : CLok 11 (RX11, TX11, 70) := ⟨rfl, in_places [1001, 1003, 1005, 1007, 1009, 1011, 1013, 1015, 1017, 1019, 1021, 1023, 1025, 1027, 1029, 1031, 1033, 1035, 1037, 1039, 1041, 1043, 1045, 1047, 1049, 1051, 1053, 1055, 1057, 1059, 1061, 1063, 1065, 1067, 1069, 1071, 1073, 1075, 1077, 1079, 1081, 1083, 1085, 1087, 1089, 1091, 1093, 1095, 1097, 1099, 1101, 1103, 1105, 1107, 1109, 1111, 1113, 1115, 1117, 1119, 1121, 1123, 1125, 1127, 1129, 1131, 1133, 1135, 1137, 1139] (by decide +kernel) (by decide +kernel), ⟨tyX11, tyX11_ok⟩, nmX11⟩
abbrev mX0_init : MI := (yX0_init, cX0_init, 1, none)
abbrev mX0_send : MI := (yX0_send, cX0_send, 6, none)
abbrev mX0_allMeasures : MI := (yX0_allMeasures, cX0_allMeasures, 3, some .int)
abbrev mX0_grow : MI := (yX0_grow, cX0_grow, 2, none)
abbrev mX0_arrive : MI := (yX0_arrive, cX0_arrive, 5, none)
abbrev mX0_unload : MI := (yX0_unload, cX0_unload, 6, none)
abbrev mX1_init : MI := (yX1_init, cX1_init, 1, none)
abbrev mX1_add : MI := (yX1_add, cX1_add, 5, some .int)
abbrev mX2_init : MI := (yX2_init, cX2_init, 2, none)
abbrev mX2_hasTown : MI := (yX2_hasTown, cX2_hasTown, 2, some .boolean)
abbrev mX2_found : MI := (yX2_found, cX2_found, 5, some .int)
abbrev mX2_growLots : MI := (yX2_growLots, cX2_growLots, 4, none)
abbrev mX2_eat : MI := (yX2_eat, cX2_eat, 4, none)
abbrev mX2_allTens : MI := (yX2_allTens, cX2_allTens, 3, some .int)
abbrev mX2_takeHand : MI := (yX2_takeHand, cX2_takeHand, 7, none)
abbrev mX3_init : MI := (yX3_init, cX3_init, 1, none)
abbrev mX3_add : MI := (yX3_add, cX3_add, 6, some .int)
abbrev mX3_withdraw : MI := (yX3_withdraw, cX3_withdraw, 3, some .boolean)
abbrev mX3_hear : MI := (yX3_hear, cX3_hear, 6, none)
abbrev mX3_gatherVoices : MI := (yX3_gatherVoices, cX3_gatherVoices, 7, none)
abbrev mX3_voicesFor : MI := (yX3_voicesFor, cX3_voicesFor, 4, some .int)
abbrev mX4_init : MI := (yX4_init, cX4_init, 1, none)
abbrev mX4_read : MI := (yX4_read, cX4_read, 5, some .int)
abbrev mX4_noteFault : MI := (yX4_noteFault, cX4_noteFault, 1, none)
abbrev mX4_here : MI := (yX4_here, cX4_here, 1, some .int)
abbrev mX4_valueHere : MI := (yX4_valueHere, cX4_valueHere, 1, some .int)
abbrev mX4_accept : MI := (yX4_accept, cX4_accept, 3, some .boolean)
abbrev mX4_readLine : MI := (yX4_readLine, cX4_readLine, 5, some .boolean)
abbrev mX4_readEither : MI := (yX4_readEither, cX4_readEither, 4, some .boolean)
abbrev mX4_readOne : MI := (yX4_readOne, cX4_readOne, 3, some .boolean)
abbrev mX4_readSum : MI := (yX4_readSum, cX4_readSum, 3, some .boolean)
abbrev mX4_readTerm : MI := (yX4_readTerm, cX4_readTerm, 6, some .boolean)
abbrev mX5_init : MI := (yX5_init, cX5_init, 1, none)
abbrev mX5_clear : MI := (yX5_clear, cX5_clear, 1, none)
abbrev mX5_addStep : MI := (yX5_addStep, cX5_addStep, 3, none)
abbrev mX5_addLine : MI := (yX5_addLine, cX5_addLine, 5, none)
abbrev mX5_holds : MI := (yX5_holds, cX5_holds, 8, some .boolean)
abbrev mX5_isTerm : MI := (yX5_isTerm, cX5_isTerm, 1, some .boolean)
abbrev mX5_termValue : MI := (yX5_termValue, cX5_termValue, 6, some .int)
abbrev mX5_join : MI := (yX5_join, cX5_join, 3, some .int)
abbrev mX6_init : MI := (yX6_init, cX6_init, 1, none)
abbrev mX6_plan : MI := (yX6_plan, cX6_plan, 7, none)
abbrev mX6_gatherFeasts : MI := (yX6_gatherFeasts, cX6_gatherFeasts, 6, none)
abbrev mX6_gatherPiles : MI := (yX6_gatherPiles, cX6_gatherPiles, 8, none)
abbrev mX6_feastsServedAt : MI := (yX6_feastsServedAt, cX6_feastsServedAt, 4, some .int)
abbrev mX6_findDays : MI := (yX6_findDays, cX6_findDays, 7, none)
abbrev mX6_pair : MI := (yX6_pair, cX6_pair, 2, some .int)
abbrev mX6_cheapestFeast : MI := (yX6_cheapestFeast, cX6_cheapestFeast, 5, some .int)
abbrev mX6_goForth : MI := (yX6_goForth, cX6_goForth, 6, some .boolean)
abbrev mX6_goBack : MI := (yX6_goBack, cX6_goBack, 5, some .boolean)
abbrev mX6_giveAlong : MI := (yX6_giveAlong, cX6_giveAlong, 6, none)
abbrev mX6_measuresAlong : MI := (yX6_measuresAlong, cX6_measuresAlong, 6, some .int)
abbrev mX7_init : MI := (yX7_init, cX7_init, 1, none)
abbrev mX8_init : MI := (yX8_init, cX8_init, 1, none)
abbrev mX8_scan : MI := (yX8_scan, cX8_scan, 6, none)
abbrev mX8_add : MI := (yX8_add, cX8_add, 4, none)
abbrev mX8_addNumber : MI := (yX8_addNumber, cX8_addNumber, 7, some .int)
abbrev mX8_addName : MI := (yX8_addName, cX8_addName, 6, some .int)
abbrev mX8_isTownName : MI := (yX8_isTownName, cX8_isTownName, 3, some .boolean)
abbrev mX8_kindOf : MI := (yX8_kindOf, cX8_kindOf, 3, some .int)
abbrev mX8_wordOf : MI := (yX8_wordOf, cX8_wordOf, 3, some .int)
abbrev mX8_spells : MI := (yX8_spells, cX8_spells, 5, some .boolean)
abbrev mX8_isLetter : MI := (yX8_isLetter, cX8_isLetter, 1, some .boolean)
abbrev mX8_isDigit : MI := (yX8_isDigit, cX8_isDigit, 1, some .boolean)
abbrev mX8_isSign : MI := (yX8_isSign, cX8_isSign, 1, some .boolean)
abbrev mX9_init : MI := (yX9_init, cX9_init, 1, none)
abbrev mX9_roomLeft : MI := (yX9_roomLeft, cX9_roomLeft, 1, some .int)
abbrev mX9_store : MI := (yX9_store, cX9_store, 5, some .int)
abbrev mX9_removeOfAge : MI := (yX9_removeOfAge, cX9_removeOfAge, 5, some .int)
abbrev mX9_removeOldest : MI := (yX9_removeOldest, cX9_removeOldest, 7, some .int)
abbrev mX9_measuresOfTheOldest : MI := (yX9_measuresOfTheOldest, cX9_measuresOfTheOldest, 3, some .int)
abbrev mX9_grow : MI := (yX9_grow, cX9_grow, 7, some .int)
abbrev mX10_init : MI := (yX10_init, cX10_init, 1, none)
abbrev mX10_town : MI := (yX10_town, cX10_town, 4, some .int)
abbrev mX10_way : MI := (yX10_way, cX10_way, 4, some .boolean)
abbrev mX10_keeps : MI := (yX10_keeps, cX10_keeps, 3, some .boolean)
abbrev mX10_put : MI := (yX10_put, cX10_put, 6, some .int)
abbrev mX10_take : MI := (yX10_take, cX10_take, 4, some .int)
abbrev mX10_stock : MI := (yX10_stock, cX10_stock, 4, some .int)
abbrev mX10_feed : MI := (yX10_feed, cX10_feed, 6, some .int)
abbrev mX10_end : MI := (yX10_end, cX10_end, 2, some .int)
abbrev mX10_orders : MI := (yX10_orders, cX10_orders, 2, some .int)
abbrev mX10_fault : MI := (yX10_fault, cX10_fault, 2, some .int)
abbrev mX10_months : MI := (yX10_months, cX10_months, 3, some .int)
abbrev mX10_sum : MI := (yX10_sum, cX10_sum, 2, some .int)
abbrev mX10_feast : MI := (yX10_feast, cX10_feast, 5, some .int)
abbrev mX10_cancel : MI := (yX10_cancel, cX10_cancel, 1, some .boolean)
abbrev mX10_fed : MI := (yX10_fed, cX10_fed, 1, some .int)
abbrev mX10_carried : MI := (yX10_carried, cX10_carried, 1, some .int)
abbrev mX10_call : MI := (yX10_call, cX10_call, 4, some .int)
abbrev mX10_gave : MI := (yX10_gave, cX10_gave, 2, some .int)
abbrev mX10_tell : MI := (yX10_tell, cX10_tell, 6, some .int)
abbrev mX10_untell : MI := (yX10_untell, cX10_untell, 2, some .boolean)
abbrev mX10_count : MI := (yX10_count, cX10_count, 5, some .int)
abbrev mX10_agree : MI := (yX10_agree, cX10_agree, 5, some .int)
abbrev mX10_of : MI := (yX10_of, cX10_of, 4, some .int)
abbrev mX10_about : MI := (yX10_about, cX10_about, 2, some .int)
abbrev mX10_write : MI := (yX10_write, cX10_write, 3, none)
abbrev mX10_passMonth : MI := (yX10_passMonth, cX10_passMonth, 2, none)
abbrev mX10_obey : MI := (yX10_obey, cX10_obey, 11, none)
abbrev mX10_within : MI := (yX10_within, cX10_within, 3, some .boolean)
abbrev mX10_isKind : MI := (yX10_isKind, cX10_isKind, 1, some .boolean)
abbrev mX10_subject : MI := (yX10_subject, cX10_subject, 2, some .int)
abbrev mX10_monthsOnTheWay : MI := (yX10_monthsOnTheWay, cX10_monthsOnTheWay, 1, some .int)
abbrev mX11_init : MI := (yX11_init, cX11_init, 2, none)
abbrev mX11_isTown : MI := (yX11_isTown, cX11_isTown, 2, some .boolean)
abbrev mX11_isKind : MI := (yX11_isKind, cX11_isKind, 1, some .boolean)
abbrev mX11_lot : MI := (yX11_lot, cX11_lot, 3, some .int)
abbrev mX11_town : MI := (yX11_town, cX11_town, 4, some .int)
abbrev mX11_way : MI := (yX11_way, cX11_way, 4, some .boolean)
abbrev mX11_keeps : MI := (yX11_keeps, cX11_keeps, 3, some .boolean)
abbrev mX11_inStore : MI := (yX11_inStore, cX11_inStore, 4, some .int)
abbrev mX11_space : MI := (yX11_space, cX11_space, 2, some .int)
abbrev mX11_comeIn : MI := (yX11_comeIn, cX11_comeIn, 6, some .int)
abbrev mX11_areMeasures : MI := (yX11_areMeasures, cX11_areMeasures, 1, some .boolean)
abbrev mX11_put : MI := (yX11_put, cX11_put, 5, some .int)
abbrev mX11_goOut : MI := (yX11_goOut, cX11_goOut, 8, some .int)
abbrev mX11_take : MI := (yX11_take, cX11_take, 4, some .int)
abbrev mX11_stockOf : MI := (yX11_stockOf, cX11_stockOf, 5, some .int)
abbrev mX11_stock : MI := (yX11_stock, cX11_stock, 4, some .int)
abbrev mX11_oldOf : MI := (yX11_oldOf, cX11_oldOf, 4, some .int)
abbrev mX11_sign : MI := (yX11_sign, cX11_sign, 2, some .int)
abbrev mX11_isLetter : MI := (yX11_isLetter, cX11_isLetter, 1, some .boolean)
abbrev mX11_isDigit : MI := (yX11_isDigit, cX11_isDigit, 1, some .boolean)
abbrev mX11_fails : MI := (yX11_fails, cX11_fails, 3, none)
abbrev mX11_isGood : MI := (yX11_isGood, cX11_isGood, 1, some .boolean)
abbrev mX11_next : MI := (yX11_next, cX11_next, 3, none)
abbrev mX11_is : MI := (yX11_is, cX11_is, 2, some .boolean)
abbrev mX11_isWord : MI := (yX11_isWord, cX11_isWord, 3, some .boolean)
abbrev mX11_wrong : MI := (yX11_wrong, cX11_wrong, 1, none)
abbrev mX11_must : MI := (yX11_must, cX11_must, 2, none)
abbrev mX11_kindHere : MI := (yX11_kindHere, cX11_kindHere, 1, some .int)
abbrev mX11_aKind : MI := (yX11_aKind, cX11_aKind, 2, some .int)
abbrev mX11_aNumber : MI := (yX11_aNumber, cX11_aNumber, 3, some .int)
abbrev mX11_orders : MI := (yX11_orders, cX11_orders, 2, some .int)
abbrev mX11_readLine : MI := (yX11_readLine, cX11_readLine, 3, none)
abbrev mX11_step : MI := (yX11_step, cX11_step, 4, none)
abbrev mX11_pile : MI := (yX11_pile, cX11_pile, 2, none)
abbrev mX11_e : MI := (yX11_e, cX11_e, 2, none)
abbrev mX11_one : MI := (yX11_one, cX11_one, 2, some .boolean)
abbrev mX11_readSum : MI := (yX11_readSum, cX11_readSum, 2, none)
abbrev mX11_term : MI := (yX11_term, cX11_term, 6, none)
abbrev mX11_behind : MI := (yX11_behind, cX11_behind, 2, some .boolean)
abbrev mX11_fault : MI := (yX11_fault, cX11_fault, 2, some .int)
abbrev mX11_leaf : MI := (yX11_leaf, cX11_leaf, 4, some .int)
abbrev mX11_two : MI := (yX11_two, cX11_two, 3, some .int)
abbrev mX11_holds : MI := (yX11_holds, cX11_holds, 5, some .boolean)
abbrev mX11_monthsFor : MI := (yX11_monthsFor, cX11_monthsFor, 1, some .int)
abbrev mX11_arrive : MI := (yX11_arrive, cX11_arrive, 3, none)
abbrev mX11_age : MI := (yX11_age, cX11_age, 5, none)
abbrev mX11_eat : MI := (yX11_eat, cX11_eat, 2, none)
abbrev mX11_send : MI := (yX11_send, cX11_send, 8, none)
abbrev mX11_months : MI := (yX11_months, cX11_months, 4, some .int)
abbrev mX11_sum : MI := (yX11_sum, cX11_sum, 4, some .int)
abbrev mX11_feast : MI := (yX11_feast, cX11_feast, 5, some .int)
abbrev mX11_cancel : MI := (yX11_cancel, cX11_cancel, 1, some .boolean)
abbrev mX11_canGo : MI := (yX11_canGo, cX11_canGo, 4, some .boolean)
abbrev mX11_daysOf : MI := (yX11_daysOf, cX11_daysOf, 3, some .int)
abbrev mX11_feedAll : MI := (yX11_feedAll, cX11_feedAll, 4, none)
abbrev mX11_measure : MI := (yX11_measure, cX11_measure, 4, none)
abbrev mX11_nearer : MI := (yX11_nearer, cX11_nearer, 4, some .boolean)
abbrev mX11_giveMore : MI := (yX11_giveMore, cX11_giveMore, 6, some .boolean)
abbrev mX11_fed : MI := (yX11_fed, cX11_fed, 1, some .int)
abbrev mX11_carried : MI := (yX11_carried, cX11_carried, 1, some .int)
abbrev mX11_call : MI := (yX11_call, cX11_call, 6, some .int)
abbrev mX11_lacks : MI := (yX11_lacks, cX11_lacks, 3, some .int)
abbrev mX11_gave : MI := (yX11_gave, cX11_gave, 2, some .int)
abbrev mX11_tell : MI := (yX11_tell, cX11_tell, 6, some .int)
abbrev mX11_untell : MI := (yX11_untell, cX11_untell, 2, some .boolean)
abbrev mX11_count : MI := (yX11_count, cX11_count, 9, some .int)
abbrev mX11_agree : MI := (yX11_agree, cX11_agree, 5, some .int)
abbrev mX11_of : MI := (yX11_of, cX11_of, 3, some .int)
abbrev mX11_about : MI := (yX11_about, cX11_about, 2, some .int)
abbrev mX11_feed : MI := (yX11_feed, cX11_feed, 8, some .int)
abbrev mX11_end : MI := (yX11_end, cX11_end, 2, some .int)
abbrev mJ9_min_7cf53 : MI := (yJ9_min_7cf53, cJ9_min_7cf53, 2, some .int)
abbrev mJ0_length_8abf5 : MI := (yJ0_length_8abf5, cJ0_length_8abf5, 1, some .int)
abbrev mJ0_charAt_5068e : MI := (yJ0_charAt_5068e, cJ0_charAt_5068e, 2, some .char)
abbrev mJ0_coder_7d493 : MI := (yJ0_coder_7d493, cJ0_coder_7d493, 1, some .byte)
abbrev mJ0_isLatin1_aae02 : MI := (yJ0_isLatin1_aae02, cJ0_isLatin1_aae02, 1, some .boolean)
abbrev mJ0_checkIndex_df160 : MI := (yJ0_checkIndex_df160, cJ0_checkIndex_df160, 2, none)
abbrev mJ1_charAt_3b067 : MI := (yJ1_charAt_3b067, cJ1_charAt_3b067, 2, some .char)
abbrev mJ2_getChar_3b067 : MI := (yJ2_getChar_3b067, cJ2_getChar_3b067, 2, some .char)
abbrev mJ2_length_9d52b : MI := (yJ2_length_9d52b, cJ2_length_9d52b, 1, some .int)
abbrev mJ2_charAt_3b067 : MI := (yJ2_charAt_3b067, cJ2_charAt_3b067, 2, some .char)
abbrev mJ2_checkIndex_2214a : MI := (yJ2_checkIndex_2214a, cJ2_checkIndex_2214a, 2, none)
abbrev mJ7_fill_53178 : MI := (yJ7_fill_53178, cJ7_fill_53178, 4, none)
abbrev mJ3_checkIndex_8e157 : MI := (yJ3_checkIndex_8e157, cJ3_checkIndex_8e157, 3, some .int)
theorem fl_X10_12 : FL RX10 12 10 (RX10, TX10, 9) 0 := ⟨by decide, in_place 453 (by decide +kernel) rfl⟩
theorem fl_X10_19 : FL RX10 19 10 (RX10, TX10, 9) 1 := ⟨by decide, in_place 454 (by decide +kernel) rfl⟩
theorem fl_X10_26 : FL RX10 26 10 (RX10, TX10, 9) 2 := ⟨by decide, in_place 455 (by decide +kernel) rfl⟩
theorem fl_X10_30 : FL RX10 30 10 (RX10, TX10, 9) 3 := ⟨by decide, in_place 456 (by decide +kernel) rfl⟩
theorem fl_X10_37 : FL RX10 37 10 (RX10, TX10, 9) 5 := ⟨by decide, in_place 458 (by decide +kernel) rfl⟩
theorem fl_X10_44 : FL RX10 44 10 (RX10, TX10, 9) 6 := ⟨by decide, in_place 459 (by decide +kernel) rfl⟩
theorem fl_X10_51 : FL RX10 51 10 (RX10, TX10, 9) 7 := ⟨by decide, in_place 460 (by decide +kernel) rfl⟩
theorem fl_X10_58 : FL RX10 58 10 (RX10, TX10, 9) 8 := ⟨by decide, in_place 461 (by decide +kernel) rfl⟩
theorem fl_X10_75 : FL RX10 75 2 (RX2, TX2, 6) 1 := ⟨by decide, in_place 148 (by decide +kernel) rfl⟩
theorem fl_X10_82 : FL RX10 82 2 (RX2, TX2, 6) 2 := ⟨by decide, in_place 152 (by decide +kernel) rfl⟩
theorem fl_X10_86 : FL RX10 86 2 (RX2, TX2, 6) 0 := ⟨by decide, in_place 144 (by decide +kernel) rfl⟩
theorem fl_X10_95 : FL RX10 95 7 (RX7, TX7, 4) 2 := ⟨by decide, in_place 187 (by decide +kernel) rfl⟩
theorem fl_X10_103 : FL RX10 103 9 (RX9, TX9, 6) 4 := ⟨by decide, in_place 120 (by decide +kernel) rfl⟩
theorem fl_X10_106 : FL RX10 106 9 (RX9, TX9, 6) 5 := ⟨by decide, in_place 124 (by decide +kernel) rfl⟩
theorem fl_X10_109 : FL RX10 109 10 (RX10, TX10, 9) 4 := ⟨by decide, in_place 457 (by decide +kernel) rfl⟩
theorem fl_X10_120 : FL RX10 120 4 (RX4, TX4, 8) 6 := ⟨by decide, in_place 305 (by decide +kernel) rfl⟩
theorem fl_X10_123 : FL RX10 123 4 (RX4, TX4, 8) 7 := ⟨by decide, in_place 307 (by decide +kernel) rfl⟩
theorem fl_X10_126 : FL RX10 126 2 (RX2, TX2, 6) 4 := ⟨by decide, in_place 160 (by decide +kernel) rfl⟩
theorem fl_X10_132 : FL RX10 132 7 (RX7, TX7, 4) 0 := ⟨by decide, in_place 183 (by decide +kernel) rfl⟩
theorem fl_X10_135 : FL RX10 135 7 (RX7, TX7, 4) 1 := ⟨by decide, in_place 186 (by decide +kernel) rfl⟩
theorem fl_X10_142 : FL RX10 142 0 (RX0, TX0, 6) 5 := ⟨by decide, in_place 212 (by decide +kernel) rfl⟩
theorem fl_X10_145 : FL RX10 145 7 (RX7, TX7, 4) 3 := ⟨by decide, in_place 190 (by decide +kernel) rfl⟩
theorem fl_X10_152 : FL RX10 152 1 (RX1, TX1, 5) 4 := ⟨by decide, in_place 341 (by decide +kernel) rfl⟩
theorem fl_X10_157 : FL RX10 157 6 (RX6, TX6, 17) 15 := ⟨by decide, in_place 375 (by decide +kernel) rfl⟩
theorem fl_X10_160 : FL RX10 160 6 (RX6, TX6, 17) 16 := ⟨by decide, in_place 377 (by decide +kernel) rfl⟩
theorem fl_X10_163 : FL RX10 163 2 (RX2, TX2, 6) 5 := ⟨by decide, in_place 162 (by decide +kernel) rfl⟩
theorem fl_X10_172 : FL RX10 172 9 (RX9, TX9, 6) 3 := ⟨by decide, in_place 118 (by decide +kernel) rfl⟩
theorem fl_X10_190 : FL RX10 190 3 (RX3, TX3, 10) 8 := ⟨by decide, in_place 429 (by decide +kernel) rfl⟩
theorem fl_X10_193 : FL RX10 193 3 (RX3, TX3, 10) 9 := ⟨by decide, in_place 431 (by decide +kernel) rfl⟩
theorem fl_X10_196 : FL RX10 196 9 (RX9, TX9, 6) 0 := ⟨by decide, in_place 111 (by decide +kernel) rfl⟩
theorem fl_X10_199 : FL RX10 199 9 (RX9, TX9, 6) 1 := ⟨by decide, in_place 114 (by decide +kernel) rfl⟩
theorem fl_X10_202 : FL RX10 202 9 (RX9, TX9, 6) 2 := ⟨by decide, in_place 116 (by decide +kernel) rfl⟩
theorem fl_X10_208 : FL RX10 208 2 (RX2, TX2, 6) 3 := ⟨by decide, in_place 156 (by decide +kernel) rfl⟩
theorem fl_X10_211 : FL RX10 211 4 (RX4, TX4, 8) 4 := ⟨by decide, in_place 302 (by decide +kernel) rfl⟩
theorem fl_X10_215 : FL RX10 215 5 (RX5, TX5, 9) 3 := ⟨by decide, in_place 268 (by decide +kernel) rfl⟩
theorem fl_X10_220 : FL RX10 220 3 (RX3, TX3, 10) 6 := ⟨by decide, in_place 426 (by decide +kernel) rfl⟩
theorem fl_X10_243 : FL RX10 243 5 (RX5, TX5, 9) 7 := ⟨by decide, in_place 275 (by decide +kernel) rfl⟩
theorem fl_X10_246 : FL RX10 246 5 (RX5, TX5, 9) 8 := ⟨by decide, in_place 277 (by decide +kernel) rfl⟩
theorem fl_X10_249 : FL RX10 249 5 (RX5, TX5, 9) 6 := ⟨by decide, in_place 273 (by decide +kernel) rfl⟩
theorem fl_X10_256 : FL RX10 256 5 (RX5, TX5, 9) 5 := ⟨by decide, in_place 271 (by decide +kernel) rfl⟩
theorem fl_X0_9 : FL RX0 9 0 (RX0, TX0, 6) 0 := ⟨by decide, in_place 206 (by decide +kernel) rfl⟩
theorem fl_X0_15 : FL RX0 15 0 (RX0, TX0, 6) 1 := ⟨by decide, in_place 207 (by decide +kernel) rfl⟩
theorem fl_X0_18 : FL RX0 18 0 (RX0, TX0, 6) 2 := ⟨by decide, in_place 208 (by decide +kernel) rfl⟩
theorem fl_X0_21 : FL RX0 21 0 (RX0, TX0, 6) 3 := ⟨by decide, in_place 209 (by decide +kernel) rfl⟩
theorem fl_X0_24 : FL RX0 24 0 (RX0, TX0, 6) 4 := ⟨by decide, in_place 210 (by decide +kernel) rfl⟩
theorem fl_X0_27 : FL RX0 27 0 (RX0, TX0, 6) 5 := ⟨by decide, in_place 211 (by decide +kernel) rfl⟩
theorem fl_X0_31 : FL RX0 31 2 (RX2, TX2, 6) 4 := ⟨by decide, in_place 158 (by decide +kernel) rfl⟩
theorem fl_X0_44 : FL RX0 44 7 (RX7, TX7, 4) 3 := ⟨by decide, in_place 189 (by decide +kernel) rfl⟩
theorem fl_X0_49 : FL RX0 49 2 (RX2, TX2, 6) 2 := ⟨by decide, in_place 153 (by decide +kernel) rfl⟩
theorem fl_X0_52 : FL RX0 52 7 (RX7, TX7, 4) 1 := ⟨by decide, in_place 185 (by decide +kernel) rfl⟩
theorem fl_X0_55 : FL RX0 55 2 (RX2, TX2, 6) 0 := ⟨by decide, in_place 145 (by decide +kernel) rfl⟩
theorem fl_X0_65 : FL RX0 65 7 (RX7, TX7, 4) 2 := ⟨by decide, in_place 188 (by decide +kernel) rfl⟩
theorem fl_X1_9 : FL RX1 9 1 (RX1, TX1, 5) 0 := ⟨by decide, in_place 331 (by decide +kernel) rfl⟩
theorem fl_X1_15 : FL RX1 15 1 (RX1, TX1, 5) 1 := ⟨by decide, in_place 333 (by decide +kernel) rfl⟩
theorem fl_X1_18 : FL RX1 18 1 (RX1, TX1, 5) 2 := ⟨by decide, in_place 335 (by decide +kernel) rfl⟩
theorem fl_X1_21 : FL RX1 21 1 (RX1, TX1, 5) 3 := ⟨by decide, in_place 337 (by decide +kernel) rfl⟩
theorem fl_X1_24 : FL RX1 24 1 (RX1, TX1, 5) 4 := ⟨by decide, in_place 339 (by decide +kernel) rfl⟩
theorem fl_X2_11 : FL RX2 11 2 (RX2, TX2, 6) 0 := ⟨by decide, in_place 142 (by decide +kernel) rfl⟩
theorem fl_X2_19 : FL RX2 19 2 (RX2, TX2, 6) 1 := ⟨by decide, in_place 147 (by decide +kernel) rfl⟩
theorem fl_X2_22 : FL RX2 22 2 (RX2, TX2, 6) 2 := ⟨by decide, in_place 150 (by decide +kernel) rfl⟩
theorem fl_X2_33 : FL RX2 33 2 (RX2, TX2, 6) 3 := ⟨by decide, in_place 154 (by decide +kernel) rfl⟩
theorem fl_X2_41 : FL RX2 41 9 (RX9, TX9, 6) 0 := ⟨by decide, in_place 110 (by decide +kernel) rfl⟩
theorem fl_X2_44 : FL RX2 44 9 (RX9, TX9, 6) 1 := ⟨by decide, in_place 112 (by decide +kernel) rfl⟩
theorem fl_X2_47 : FL RX2 47 9 (RX9, TX9, 6) 2 := ⟨by decide, in_place 115 (by decide +kernel) rfl⟩
theorem fl_X2_50 : FL RX2 50 7 (RX7, TX7, 4) 1 := ⟨by decide, in_place 184 (by decide +kernel) rfl⟩
theorem fl_X2_59 : FL RX2 59 7 (RX7, TX7, 4) 0 := ⟨by decide, in_place 182 (by decide +kernel) rfl⟩
theorem fl_X2_65 : FL RX2 65 2 (RX2, TX2, 6) 5 := ⟨by decide, in_place 161 (by decide +kernel) rfl⟩
theorem fl_X2_68 : FL RX2 68 9 (RX9, TX9, 6) 3 := ⟨by decide, in_place 117 (by decide +kernel) rfl⟩
theorem fl_X3_9 : FL RX3 9 3 (RX3, TX3, 10) 0 := ⟨by decide, in_place 419 (by decide +kernel) rfl⟩
theorem fl_X3_15 : FL RX3 15 3 (RX3, TX3, 10) 1 := ⟨by decide, in_place 420 (by decide +kernel) rfl⟩
theorem fl_X3_18 : FL RX3 18 3 (RX3, TX3, 10) 2 := ⟨by decide, in_place 421 (by decide +kernel) rfl⟩
theorem fl_X3_21 : FL RX3 21 3 (RX3, TX3, 10) 3 := ⟨by decide, in_place 422 (by decide +kernel) rfl⟩
theorem fl_X3_24 : FL RX3 24 3 (RX3, TX3, 10) 4 := ⟨by decide, in_place 423 (by decide +kernel) rfl⟩
theorem fl_X3_27 : FL RX3 27 3 (RX3, TX3, 10) 5 := ⟨by decide, in_place 424 (by decide +kernel) rfl⟩
theorem fl_X3_30 : FL RX3 30 3 (RX3, TX3, 10) 7 := ⟨by decide, in_place 427 (by decide +kernel) rfl⟩
theorem fl_X3_33 : FL RX3 33 3 (RX3, TX3, 10) 8 := ⟨by decide, in_place 428 (by decide +kernel) rfl⟩
theorem fl_X3_37 : FL RX3 37 3 (RX3, TX3, 10) 6 := ⟨by decide, in_place 425 (by decide +kernel) rfl⟩
theorem fl_X3_48 : FL RX3 48 3 (RX3, TX3, 10) 9 := ⟨by decide, in_place 430 (by decide +kernel) rfl⟩
theorem fl_X4_12 : FL RX4 12 4 (RX4, TX4, 8) 0 := ⟨by decide, in_place 297 (by decide +kernel) rfl⟩
theorem fl_X4_21 : FL RX4 21 4 (RX4, TX4, 8) 4 := ⟨by decide, in_place 301 (by decide +kernel) rfl⟩
theorem fl_X4_25 : FL RX4 25 4 (RX4, TX4, 8) 5 := ⟨by decide, in_place 303 (by decide +kernel) rfl⟩
theorem fl_X4_28 : FL RX4 28 4 (RX4, TX4, 8) 7 := ⟨by decide, in_place 306 (by decide +kernel) rfl⟩
theorem fl_X4_39 : FL RX4 39 4 (RX4, TX4, 8) 1 := ⟨by decide, in_place 298 (by decide +kernel) rfl⟩
theorem fl_X4_42 : FL RX4 42 4 (RX4, TX4, 8) 2 := ⟨by decide, in_place 299 (by decide +kernel) rfl⟩
theorem fl_X4_45 : FL RX4 45 4 (RX4, TX4, 8) 3 := ⟨by decide, in_place 300 (by decide +kernel) rfl⟩
theorem fl_X4_60 : FL RX4 60 4 (RX4, TX4, 8) 6 := ⟨by decide, in_place 304 (by decide +kernel) rfl⟩
theorem fl_X4_63 : FL RX4 63 5 (RX5, TX5, 9) 3 := ⟨by decide, in_place 267 (by decide +kernel) rfl⟩
theorem fl_X4_66 : FL RX4 66 8 (RX8, TX8, 4) 3 := ⟨by decide, in_place 245 (by decide +kernel) rfl⟩
theorem fl_X4_69 : FL RX4 69 8 (RX8, TX8, 4) 2 := ⟨by decide, in_place 243 (by decide +kernel) rfl⟩
theorem fl_X4_73 : FL RX4 73 8 (RX8, TX8, 4) 0 := ⟨by decide, in_place 239 (by decide +kernel) rfl⟩
theorem fl_X4_77 : FL RX4 77 8 (RX8, TX8, 4) 1 := ⟨by decide, in_place 241 (by decide +kernel) rfl⟩
theorem fl_X5_11 : FL RX5 11 5 (RX5, TX5, 9) 0 := ⟨by decide, in_place 263 (by decide +kernel) rfl⟩
theorem fl_X5_15 : FL RX5 15 5 (RX5, TX5, 9) 2 := ⟨by decide, in_place 265 (by decide +kernel) rfl⟩
theorem fl_X5_18 : FL RX5 18 5 (RX5, TX5, 9) 4 := ⟨by decide, in_place 269 (by decide +kernel) rfl⟩
theorem fl_X5_21 : FL RX5 21 5 (RX5, TX5, 9) 5 := ⟨by decide, in_place 270 (by decide +kernel) rfl⟩
theorem fl_X5_24 : FL RX5 24 5 (RX5, TX5, 9) 6 := ⟨by decide, in_place 272 (by decide +kernel) rfl⟩
theorem fl_X5_27 : FL RX5 27 5 (RX5, TX5, 9) 7 := ⟨by decide, in_place 274 (by decide +kernel) rfl⟩
theorem fl_X5_30 : FL RX5 30 5 (RX5, TX5, 9) 8 := ⟨by decide, in_place 276 (by decide +kernel) rfl⟩
theorem fl_X5_33 : FL RX5 33 5 (RX5, TX5, 9) 3 := ⟨by decide, in_place 266 (by decide +kernel) rfl⟩
theorem fl_X5_37 : FL RX5 37 5 (RX5, TX5, 9) 1 := ⟨by decide, in_place 264 (by decide +kernel) rfl⟩
theorem fl_X5_56 : FL RX5 56 2 (RX2, TX2, 6) 4 := ⟨by decide, in_place 159 (by decide +kernel) rfl⟩
theorem fl_X5_67 : FL RX5 67 2 (RX2, TX2, 6) 0 := ⟨by decide, in_place 146 (by decide +kernel) rfl⟩
theorem fl_X5_71 : FL RX5 71 9 (RX9, TX9, 6) 1 := ⟨by decide, in_place 113 (by decide +kernel) rfl⟩
theorem fl_X5_76 : FL RX5 76 9 (RX9, TX9, 6) 4 := ⟨by decide, in_place 121 (by decide +kernel) rfl⟩
theorem fl_X6_9 : FL RX6 9 6 (RX6, TX6, 17) 1 := ⟨by decide, in_place 360 (by decide +kernel) rfl⟩
theorem fl_X6_15 : FL RX6 15 6 (RX6, TX6, 17) 2 := ⟨by decide, in_place 361 (by decide +kernel) rfl⟩
theorem fl_X6_18 : FL RX6 18 6 (RX6, TX6, 17) 3 := ⟨by decide, in_place 362 (by decide +kernel) rfl⟩
theorem fl_X6_21 : FL RX6 21 6 (RX6, TX6, 17) 4 := ⟨by decide, in_place 363 (by decide +kernel) rfl⟩
theorem fl_X6_24 : FL RX6 24 6 (RX6, TX6, 17) 5 := ⟨by decide, in_place 364 (by decide +kernel) rfl⟩
theorem fl_X6_27 : FL RX6 27 6 (RX6, TX6, 17) 6 := ⟨by decide, in_place 365 (by decide +kernel) rfl⟩
theorem fl_X6_30 : FL RX6 30 6 (RX6, TX6, 17) 8 := ⟨by decide, in_place 367 (by decide +kernel) rfl⟩
theorem fl_X6_33 : FL RX6 33 6 (RX6, TX6, 17) 9 := ⟨by decide, in_place 368 (by decide +kernel) rfl⟩
theorem fl_X6_36 : FL RX6 36 6 (RX6, TX6, 17) 10 := ⟨by decide, in_place 369 (by decide +kernel) rfl⟩
theorem fl_X6_39 : FL RX6 39 6 (RX6, TX6, 17) 11 := ⟨by decide, in_place 370 (by decide +kernel) rfl⟩
theorem fl_X6_42 : FL RX6 42 6 (RX6, TX6, 17) 12 := ⟨by decide, in_place 371 (by decide +kernel) rfl⟩
theorem fl_X6_45 : FL RX6 45 6 (RX6, TX6, 17) 13 := ⟨by decide, in_place 372 (by decide +kernel) rfl⟩
theorem fl_X6_48 : FL RX6 48 6 (RX6, TX6, 17) 14 := ⟨by decide, in_place 373 (by decide +kernel) rfl⟩
theorem fl_X6_51 : FL RX6 51 6 (RX6, TX6, 17) 15 := ⟨by decide, in_place 374 (by decide +kernel) rfl⟩
theorem fl_X6_55 : FL RX6 55 6 (RX6, TX6, 17) 16 := ⟨by decide, in_place 376 (by decide +kernel) rfl⟩
theorem fl_X6_79 : FL RX6 79 6 (RX6, TX6, 17) 0 := ⟨by decide, in_place 359 (by decide +kernel) rfl⟩
theorem fl_X6_82 : FL RX6 82 1 (RX1, TX1, 5) 4 := ⟨by decide, in_place 340 (by decide +kernel) rfl⟩
theorem fl_X6_87 : FL RX6 87 1 (RX1, TX1, 5) 1 := ⟨by decide, in_place 334 (by decide +kernel) rfl⟩
theorem fl_X6_90 : FL RX6 90 2 (RX2, TX2, 6) 4 := ⟨by decide, in_place 157 (by decide +kernel) rfl⟩
theorem fl_X6_94 : FL RX6 94 1 (RX1, TX1, 5) 2 := ⟨by decide, in_place 336 (by decide +kernel) rfl⟩
theorem fl_X6_97 : FL RX6 97 2 (RX2, TX2, 6) 2 := ⟨by decide, in_place 151 (by decide +kernel) rfl⟩
theorem fl_X6_100 : FL RX6 100 1 (RX1, TX1, 5) 0 := ⟨by decide, in_place 332 (by decide +kernel) rfl⟩
theorem fl_X6_103 : FL RX6 103 1 (RX1, TX1, 5) 3 := ⟨by decide, in_place 338 (by decide +kernel) rfl⟩
theorem fl_X6_106 : FL RX6 106 6 (RX6, TX6, 17) 7 := ⟨by decide, in_place 366 (by decide +kernel) rfl⟩
theorem fl_X6_109 : FL RX6 109 2 (RX2, TX2, 6) 3 := ⟨by decide, in_place 155 (by decide +kernel) rfl⟩
theorem fl_X6_112 : FL RX6 112 2 (RX2, TX2, 6) 0 := ⟨by decide, in_place 143 (by decide +kernel) rfl⟩
theorem fl_X6_116 : FL RX6 116 9 (RX9, TX9, 6) 5 := ⟨by decide, in_place 123 (by decide +kernel) rfl⟩
theorem fl_X6_126 : FL RX6 126 2 (RX2, TX2, 6) 1 := ⟨by decide, in_place 149 (by decide +kernel) rfl⟩
theorem fl_X8_9 : FL RX8 9 8 (RX8, TX8, 4) 0 := ⟨by decide, in_place 238 (by decide +kernel) rfl⟩
theorem fl_X8_15 : FL RX8 15 8 (RX8, TX8, 4) 1 := ⟨by decide, in_place 240 (by decide +kernel) rfl⟩
theorem fl_X8_19 : FL RX8 19 8 (RX8, TX8, 4) 2 := ⟨by decide, in_place 242 (by decide +kernel) rfl⟩
theorem fl_X8_23 : FL RX8 23 8 (RX8, TX8, 4) 3 := ⟨by decide, in_place 244 (by decide +kernel) rfl⟩
theorem fl_X9_9 : FL RX9 9 9 (RX9, TX9, 6) 4 := ⟨by decide, in_place 119 (by decide +kernel) rfl⟩
theorem fl_X9_17 : FL RX9 17 9 (RX9, TX9, 6) 5 := ⟨by decide, in_place 122 (by decide +kernel) rfl⟩
theorem fl_X9_20 : FL RX9 20 9 (RX9, TX9, 6) 0 := ⟨by decide, in_place 109 (by decide +kernel) rfl⟩
theorem fl_X11_7 : FL RX11 7 11 (RX11, TX11, 70) 0 := ⟨by decide, in_place 931 (by decide +kernel) rfl⟩
theorem fl_X11_13 : FL RX11 13 11 (RX11, TX11, 70) 1 := ⟨by decide, in_place 932 (by decide +kernel) rfl⟩
theorem fl_X11_16 : FL RX11 16 11 (RX11, TX11, 70) 2 := ⟨by decide, in_place 933 (by decide +kernel) rfl⟩
theorem fl_X11_19 : FL RX11 19 11 (RX11, TX11, 70) 3 := ⟨by decide, in_place 934 (by decide +kernel) rfl⟩
theorem fl_X11_22 : FL RX11 22 11 (RX11, TX11, 70) 4 := ⟨by decide, in_place 935 (by decide +kernel) rfl⟩
theorem fl_X11_25 : FL RX11 25 11 (RX11, TX11, 70) 5 := ⟨by decide, in_place 936 (by decide +kernel) rfl⟩
theorem fl_X11_28 : FL RX11 28 11 (RX11, TX11, 70) 6 := ⟨by decide, in_place 937 (by decide +kernel) rfl⟩
theorem fl_X11_31 : FL RX11 31 11 (RX11, TX11, 70) 9 := ⟨by decide, in_place 940 (by decide +kernel) rfl⟩
theorem fl_X11_35 : FL RX11 35 11 (RX11, TX11, 70) 10 := ⟨by decide, in_place 941 (by decide +kernel) rfl⟩
theorem fl_X11_38 : FL RX11 38 11 (RX11, TX11, 70) 14 := ⟨by decide, in_place 945 (by decide +kernel) rfl⟩
theorem fl_X11_42 : FL RX11 42 11 (RX11, TX11, 70) 20 := ⟨by decide, in_place 951 (by decide +kernel) rfl⟩
theorem fl_X11_45 : FL RX11 45 11 (RX11, TX11, 70) 21 := ⟨by decide, in_place 952 (by decide +kernel) rfl⟩
theorem fl_X11_48 : FL RX11 48 11 (RX11, TX11, 70) 22 := ⟨by decide, in_place 953 (by decide +kernel) rfl⟩
theorem fl_X11_51 : FL RX11 51 11 (RX11, TX11, 70) 23 := ⟨by decide, in_place 954 (by decide +kernel) rfl⟩
theorem fl_X11_54 : FL RX11 54 11 (RX11, TX11, 70) 24 := ⟨by decide, in_place 955 (by decide +kernel) rfl⟩
theorem fl_X11_57 : FL RX11 57 11 (RX11, TX11, 70) 25 := ⟨by decide, in_place 956 (by decide +kernel) rfl⟩
theorem fl_X11_60 : FL RX11 60 11 (RX11, TX11, 70) 26 := ⟨by decide, in_place 957 (by decide +kernel) rfl⟩
theorem fl_X11_63 : FL RX11 63 11 (RX11, TX11, 70) 27 := ⟨by decide, in_place 958 (by decide +kernel) rfl⟩
theorem fl_X11_66 : FL RX11 66 11 (RX11, TX11, 70) 28 := ⟨by decide, in_place 959 (by decide +kernel) rfl⟩
theorem fl_X11_69 : FL RX11 69 11 (RX11, TX11, 70) 29 := ⟨by decide, in_place 960 (by decide +kernel) rfl⟩
theorem fl_X11_72 : FL RX11 72 11 (RX11, TX11, 70) 34 := ⟨by decide, in_place 965 (by decide +kernel) rfl⟩
theorem fl_X11_75 : FL RX11 75 11 (RX11, TX11, 70) 37 := ⟨by decide, in_place 968 (by decide +kernel) rfl⟩
theorem fl_X11_78 : FL RX11 78 11 (RX11, TX11, 70) 38 := ⟨by decide, in_place 969 (by decide +kernel) rfl⟩
theorem fl_X11_81 : FL RX11 81 11 (RX11, TX11, 70) 39 := ⟨by decide, in_place 970 (by decide +kernel) rfl⟩
theorem fl_X11_84 : FL RX11 84 11 (RX11, TX11, 70) 40 := ⟨by decide, in_place 971 (by decide +kernel) rfl⟩
theorem fl_X11_87 : FL RX11 87 11 (RX11, TX11, 70) 41 := ⟨by decide, in_place 972 (by decide +kernel) rfl⟩
theorem fl_X11_90 : FL RX11 90 11 (RX11, TX11, 70) 42 := ⟨by decide, in_place 973 (by decide +kernel) rfl⟩
theorem fl_X11_93 : FL RX11 93 11 (RX11, TX11, 70) 44 := ⟨by decide, in_place 975 (by decide +kernel) rfl⟩
theorem fl_X11_96 : FL RX11 96 11 (RX11, TX11, 70) 45 := ⟨by decide, in_place 976 (by decide +kernel) rfl⟩
theorem fl_X11_99 : FL RX11 99 11 (RX11, TX11, 70) 46 := ⟨by decide, in_place 977 (by decide +kernel) rfl⟩
theorem fl_X11_102 : FL RX11 102 11 (RX11, TX11, 70) 47 := ⟨by decide, in_place 978 (by decide +kernel) rfl⟩
theorem fl_X11_105 : FL RX11 105 11 (RX11, TX11, 70) 48 := ⟨by decide, in_place 979 (by decide +kernel) rfl⟩
theorem fl_X11_108 : FL RX11 108 11 (RX11, TX11, 70) 49 := ⟨by decide, in_place 980 (by decide +kernel) rfl⟩
theorem fl_X11_111 : FL RX11 111 11 (RX11, TX11, 70) 50 := ⟨by decide, in_place 981 (by decide +kernel) rfl⟩
theorem fl_X11_114 : FL RX11 114 11 (RX11, TX11, 70) 51 := ⟨by decide, in_place 982 (by decide +kernel) rfl⟩
theorem fl_X11_117 : FL RX11 117 11 (RX11, TX11, 70) 52 := ⟨by decide, in_place 983 (by decide +kernel) rfl⟩
theorem fl_X11_120 : FL RX11 120 11 (RX11, TX11, 70) 53 := ⟨by decide, in_place 984 (by decide +kernel) rfl⟩
theorem fl_X11_123 : FL RX11 123 11 (RX11, TX11, 70) 54 := ⟨by decide, in_place 985 (by decide +kernel) rfl⟩
theorem fl_X11_126 : FL RX11 126 11 (RX11, TX11, 70) 58 := ⟨by decide, in_place 989 (by decide +kernel) rfl⟩
theorem fl_X11_129 : FL RX11 129 11 (RX11, TX11, 70) 60 := ⟨by decide, in_place 991 (by decide +kernel) rfl⟩
theorem fl_X11_132 : FL RX11 132 11 (RX11, TX11, 70) 61 := ⟨by decide, in_place 992 (by decide +kernel) rfl⟩
theorem fl_X11_135 : FL RX11 135 11 (RX11, TX11, 70) 62 := ⟨by decide, in_place 993 (by decide +kernel) rfl⟩
theorem fl_X11_138 : FL RX11 138 11 (RX11, TX11, 70) 63 := ⟨by decide, in_place 994 (by decide +kernel) rfl⟩
theorem fl_X11_141 : FL RX11 141 11 (RX11, TX11, 70) 64 := ⟨by decide, in_place 995 (by decide +kernel) rfl⟩
theorem fl_X11_144 : FL RX11 144 11 (RX11, TX11, 70) 65 := ⟨by decide, in_place 996 (by decide +kernel) rfl⟩
theorem fl_X11_147 : FL RX11 147 11 (RX11, TX11, 70) 66 := ⟨by decide, in_place 997 (by decide +kernel) rfl⟩
theorem fl_X11_150 : FL RX11 150 11 (RX11, TX11, 70) 67 := ⟨by decide, in_place 998 (by decide +kernel) rfl⟩
theorem fl_X11_153 : FL RX11 153 11 (RX11, TX11, 70) 7 := ⟨by decide, in_place 938 (by decide +kernel) rfl⟩
theorem fl_X11_189 : FL RX11 189 11 (RX11, TX11, 70) 12 := ⟨by decide, in_place 943 (by decide +kernel) rfl⟩
theorem fl_X11_192 : FL RX11 192 11 (RX11, TX11, 70) 13 := ⟨by decide, in_place 944 (by decide +kernel) rfl⟩
theorem fl_X11_195 : FL RX11 195 11 (RX11, TX11, 70) 16 := ⟨by decide, in_place 947 (by decide +kernel) rfl⟩
theorem fl_X11_198 : FL RX11 198 11 (RX11, TX11, 70) 15 := ⟨by decide, in_place 946 (by decide +kernel) rfl⟩
theorem fl_X11_204 : FL RX11 204 11 (RX11, TX11, 70) 17 := ⟨by decide, in_place 948 (by decide +kernel) rfl⟩
theorem fl_X11_213 : FL RX11 213 11 (RX11, TX11, 70) 18 := ⟨by decide, in_place 949 (by decide +kernel) rfl⟩
theorem fl_X11_216 : FL RX11 216 11 (RX11, TX11, 70) 19 := ⟨by decide, in_place 950 (by decide +kernel) rfl⟩
theorem fl_X11_252 : FL RX11 252 11 (RX11, TX11, 70) 11 := ⟨by decide, in_place 942 (by decide +kernel) rfl⟩
theorem fl_X11_255 : FL RX11 255 11 (RX11, TX11, 70) 30 := ⟨by decide, in_place 961 (by decide +kernel) rfl⟩
theorem fl_X11_258 : FL RX11 258 11 (RX11, TX11, 70) 31 := ⟨by decide, in_place 962 (by decide +kernel) rfl⟩
theorem fl_X11_261 : FL RX11 261 11 (RX11, TX11, 70) 32 := ⟨by decide, in_place 963 (by decide +kernel) rfl⟩
theorem fl_X11_264 : FL RX11 264 11 (RX11, TX11, 70) 33 := ⟨by decide, in_place 964 (by decide +kernel) rfl⟩
theorem fl_X11_290 : FL RX11 290 11 (RX11, TX11, 70) 35 := ⟨by decide, in_place 966 (by decide +kernel) rfl⟩
theorem fl_X11_293 : FL RX11 293 11 (RX11, TX11, 70) 36 := ⟨by decide, in_place 967 (by decide +kernel) rfl⟩
theorem fl_X11_332 : FL RX11 332 11 (RX11, TX11, 70) 8 := ⟨by decide, in_place 939 (by decide +kernel) rfl⟩
theorem fl_X11_344 : FL RX11 344 11 (RX11, TX11, 70) 43 := ⟨by decide, in_place 974 (by decide +kernel) rfl⟩
theorem fl_X11_365 : FL RX11 365 11 (RX11, TX11, 70) 55 := ⟨by decide, in_place 986 (by decide +kernel) rfl⟩
theorem fl_X11_368 : FL RX11 368 11 (RX11, TX11, 70) 56 := ⟨by decide, in_place 987 (by decide +kernel) rfl⟩
theorem fl_X11_371 : FL RX11 371 11 (RX11, TX11, 70) 57 := ⟨by decide, in_place 988 (by decide +kernel) rfl⟩
theorem fl_X11_394 : FL RX11 394 11 (RX11, TX11, 70) 59 := ⟨by decide, in_place 990 (by decide +kernel) rfl⟩
theorem fl_X11_401 : FL RX11 401 11 (RX11, TX11, 70) 68 := ⟨by decide, in_place 999 (by decide +kernel) rfl⟩
theorem fl_X11_404 : FL RX11 404 11 (RX11, TX11, 70) 69 := ⟨by decide, in_place 1000 (by decide +kernel) rfl⟩
theorem m0_X0_send : ML0 mX0_send 5 := ⟨in_place 736 (by decide +kernel) rfl, in_place 72 (by decide +kernel) rfl, ⟨by decide +kernel, by decide +kernel, by decide +kernel⟩, by decide +kernel, by decide⟩
theorem m0_X0_allMeasures : ML0 mX0_allMeasures 0 := ⟨in_place 791 (by decide +kernel) rfl, in_place 72 (by decide +kernel) rfl, ⟨by decide +kernel, by decide +kernel, by decide +kernel⟩, by decide +kernel, by decide⟩
theorem m0_X0_grow : ML0 mX0_grow 0 := ⟨in_place 740 (by decide +kernel) rfl, in_place 72 (by decide +kernel) rfl, ⟨by decide +kernel, by decide +kernel, by decide +kernel⟩, by decide +kernel, by decide⟩
theorem m0_X0_arrive : ML0 mX0_arrive 2 := ⟨in_place 727 (by decide +kernel) rfl, in_place 72 (by decide +kernel) rfl, ⟨by decide +kernel, by decide +kernel, by decide +kernel⟩, by decide +kernel, by decide⟩
theorem m0_X0_unload : ML0 mX0_unload 3 := ⟨in_place 731 (by decide +kernel) rfl, in_place 72 (by decide +kernel) rfl, ⟨by decide +kernel, by decide +kernel, by decide +kernel⟩, by decide +kernel, by decide⟩
theorem m0_X1_add : ML0 mX1_add 4 := ⟨in_place 799 (by decide +kernel) rfl, in_place 76 (by decide +kernel) rfl, ⟨by decide +kernel, by decide +kernel, by decide +kernel⟩, by decide +kernel, by decide⟩
theorem m0_X2_hasTown : ML0 mX2_hasTown 1 := ⟨in_place 500 (by decide +kernel) rfl, in_place 68 (by decide +kernel) rfl, ⟨by decide +kernel, by decide +kernel, by decide +kernel⟩, by decide +kernel, by decide⟩
theorem m0_X2_found : ML0 mX2_found 3 := ⟨in_place 492 (by decide +kernel) rfl, in_place 68 (by decide +kernel) rfl, ⟨by decide +kernel, by decide +kernel, by decide +kernel⟩, by decide +kernel, by decide⟩
theorem m0_X2_growLots : ML0 mX2_growLots 1 := ⟨in_place 744 (by decide +kernel) rfl, in_place 68 (by decide +kernel) rfl, ⟨by decide +kernel, by decide +kernel, by decide +kernel⟩, by decide +kernel, by decide⟩
theorem m0_X2_eat : ML0 mX2_eat 1 := ⟨in_place 752 (by decide +kernel) rfl, in_place 68 (by decide +kernel) rfl, ⟨by decide +kernel, by decide +kernel, by decide +kernel⟩, by decide +kernel, by decide⟩
theorem m0_X2_allTens : ML0 mX2_allTens 0 := ⟨in_place 867 (by decide +kernel) rfl, in_place 68 (by decide +kernel) rfl, ⟨by decide +kernel, by decide +kernel, by decide +kernel⟩, by decide +kernel, by decide⟩
theorem m0_X2_takeHand : ML0 mX2_takeHand 1 := ⟨in_place 871 (by decide +kernel) rfl, in_place 68 (by decide +kernel) rfl, ⟨by decide +kernel, by decide +kernel, by decide +kernel⟩, by decide +kernel, by decide⟩
theorem m0_X3_add : ML0 mX3_add 5 := ⟨in_place 885 (by decide +kernel) rfl, in_place 78 (by decide +kernel) rfl, ⟨by decide +kernel, by decide +kernel, by decide +kernel⟩, by decide +kernel, by decide⟩
theorem m0_X3_withdraw : ML0 mX3_withdraw 2 := ⟨in_place 893 (by decide +kernel) rfl, in_place 78 (by decide +kernel) rfl, ⟨by decide +kernel, by decide +kernel, by decide +kernel⟩, by decide +kernel, by decide⟩
theorem m0_X3_hear : ML0 mX3_hear 3 := ⟨in_place 902 (by decide +kernel) rfl, in_place 78 (by decide +kernel) rfl, ⟨by decide +kernel, by decide +kernel, by decide +kernel⟩, by decide +kernel, by decide⟩
theorem m0_X3_gatherVoices : ML0 mX3_gatherVoices 3 := ⟨in_place 906 (by decide +kernel) rfl, in_place 78 (by decide +kernel) rfl, ⟨by decide +kernel, by decide +kernel, by decide +kernel⟩, by decide +kernel, by decide⟩
theorem m0_X3_voicesFor : ML0 mX3_voicesFor 1 := ⟨in_place 911 (by decide +kernel) rfl, in_place 78 (by decide +kernel) rfl, ⟨by decide +kernel, by decide +kernel, by decide +kernel⟩, by decide +kernel, by decide⟩
theorem m0_X4_read : ML0 mX4_read 2 := ⟨in_place 559 (by decide +kernel) rfl, in_place 73 (by decide +kernel) rfl, ⟨by decide +kernel, by decide +kernel, by decide +kernel⟩, by decide +kernel, by decide⟩
theorem m0_X4_noteFault : ML0 mX4_noteFault 0 := ⟨in_place 711 (by decide +kernel) rfl, in_place 73 (by decide +kernel) rfl, ⟨by decide +kernel, by decide +kernel, by decide +kernel⟩, by decide +kernel, by decide⟩
theorem m0_X4_here : ML0 mX4_here 0 := ⟨in_place 668 (by decide +kernel) rfl, in_place 73 (by decide +kernel) rfl, ⟨by decide +kernel, by decide +kernel, by decide +kernel⟩, by decide +kernel, by decide⟩
theorem m0_X4_valueHere : ML0 mX4_valueHere 0 := ⟨in_place 700 (by decide +kernel) rfl, in_place 73 (by decide +kernel) rfl, ⟨by decide +kernel, by decide +kernel, by decide +kernel⟩, by decide +kernel, by decide⟩
theorem m0_X4_accept : ML0 mX4_accept 1 := ⟨in_place 676 (by decide +kernel) rfl, in_place 73 (by decide +kernel) rfl, ⟨by decide +kernel, by decide +kernel, by decide +kernel⟩, by decide +kernel, by decide⟩
theorem m0_X4_readLine : ML0 mX4_readLine 0 := ⟨in_place 672 (by decide +kernel) rfl, in_place 73 (by decide +kernel) rfl, ⟨by decide +kernel, by decide +kernel, by decide +kernel⟩, by decide +kernel, by decide⟩
theorem m0_X4_readEither : ML0 mX4_readEither 1 := ⟨in_place 680 (by decide +kernel) rfl, in_place 73 (by decide +kernel) rfl, ⟨by decide +kernel, by decide +kernel, by decide +kernel⟩, by decide +kernel, by decide⟩
theorem m0_X4_readOne : ML0 mX4_readOne 1 := ⟨in_place 684 (by decide +kernel) rfl, in_place 73 (by decide +kernel) rfl, ⟨by decide +kernel, by decide +kernel, by decide +kernel⟩, by decide +kernel, by decide⟩
theorem m0_X4_readSum : ML0 mX4_readSum 0 := ⟨in_place 692 (by decide +kernel) rfl, in_place 73 (by decide +kernel) rfl, ⟨by decide +kernel, by decide +kernel, by decide +kernel⟩, by decide +kernel, by decide⟩
theorem m0_X4_readTerm : ML0 mX4_readTerm 0 := ⟨in_place 696 (by decide +kernel) rfl, in_place 73 (by decide +kernel) rfl, ⟨by decide +kernel, by decide +kernel, by decide +kernel⟩, by decide +kernel, by decide⟩
theorem m0_X5_clear : ML0 mX5_clear 0 := ⟨in_place 664 (by decide +kernel) rfl, in_place 75 (by decide +kernel) rfl, ⟨by decide +kernel, by decide +kernel, by decide +kernel⟩, by decide +kernel, by decide⟩
theorem m0_X5_addStep : ML0 mX5_addStep 2 := ⟨in_place 688 (by decide +kernel) rfl, in_place 75 (by decide +kernel) rfl, ⟨by decide +kernel, by decide +kernel, by decide +kernel⟩, by decide +kernel, by decide⟩
theorem m0_X5_addLine : ML0 mX5_addLine 4 := ⟨in_place 707 (by decide +kernel) rfl, in_place 75 (by decide +kernel) rfl, ⟨by decide +kernel, by decide +kernel, by decide +kernel⟩, by decide +kernel, by decide⟩
theorem m0_X5_holds : ML0 mX5_holds 2 := ⟨in_place 757 (by decide +kernel) rfl, in_place 75 (by decide +kernel) rfl, ⟨by decide +kernel, by decide +kernel, by decide +kernel⟩, by decide +kernel, by decide⟩
theorem m0_X5_isTerm : ML0 mX5_isTerm 1 := ⟨in_place 760 (by decide +kernel) rfl, in_place 75 (by decide +kernel) rfl, ⟨by decide +kernel, by decide +kernel, by decide +kernel⟩, by decide +kernel, by decide⟩
theorem m0_X5_termValue : ML0 mX5_termValue 3 := ⟨in_place 764 (by decide +kernel) rfl, in_place 75 (by decide +kernel) rfl, ⟨by decide +kernel, by decide +kernel, by decide +kernel⟩, by decide +kernel, by decide⟩
theorem m0_X5_join : ML0 mX5_join 3 := ⟨in_place 774 (by decide +kernel) rfl, in_place 75 (by decide +kernel) rfl, ⟨by decide +kernel, by decide +kernel, by decide +kernel⟩, by decide +kernel, by decide⟩
theorem m0_X6_plan : ML0 mX6_plan 2 := ⟨in_place 811 (by decide +kernel) rfl, in_place 77 (by decide +kernel) rfl, ⟨by decide +kernel, by decide +kernel, by decide +kernel⟩, by decide +kernel, by decide⟩
theorem m0_X6_gatherFeasts : ML0 mX6_gatherFeasts 3 := ⟨in_place 815 (by decide +kernel) rfl, in_place 77 (by decide +kernel) rfl, ⟨by decide +kernel, by decide +kernel, by decide +kernel⟩, by decide +kernel, by decide⟩
theorem m0_X6_gatherPiles : ML0 mX6_gatherPiles 2 := ⟨in_place 819 (by decide +kernel) rfl, in_place 77 (by decide +kernel) rfl, ⟨by decide +kernel, by decide +kernel, by decide +kernel⟩, by decide +kernel, by decide⟩
theorem m0_X6_feastsServedAt : ML0 mX6_feastsServedAt 1 := ⟨in_place 823 (by decide +kernel) rfl, in_place 77 (by decide +kernel) rfl, ⟨by decide +kernel, by decide +kernel, by decide +kernel⟩, by decide +kernel, by decide⟩
theorem m0_X6_findDays : ML0 mX6_findDays 1 := ⟨in_place 827 (by decide +kernel) rfl, in_place 77 (by decide +kernel) rfl, ⟨by decide +kernel, by decide +kernel, by decide +kernel⟩, by decide +kernel, by decide⟩
theorem m0_X6_pair : ML0 mX6_pair 2 := ⟨in_place 831 (by decide +kernel) rfl, in_place 77 (by decide +kernel) rfl, ⟨by decide +kernel, by decide +kernel, by decide +kernel⟩, by decide +kernel, by decide⟩
theorem m0_X6_cheapestFeast : ML0 mX6_cheapestFeast 0 := ⟨in_place 836 (by decide +kernel) rfl, in_place 77 (by decide +kernel) rfl, ⟨by decide +kernel, by decide +kernel, by decide +kernel⟩, by decide +kernel, by decide⟩
theorem m0_X6_goForth : ML0 mX6_goForth 0 := ⟨in_place 842 (by decide +kernel) rfl, in_place 77 (by decide +kernel) rfl, ⟨by decide +kernel, by decide +kernel, by decide +kernel⟩, by decide +kernel, by decide⟩
theorem m0_X6_goBack : ML0 mX6_goBack 0 := ⟨in_place 846 (by decide +kernel) rfl, in_place 77 (by decide +kernel) rfl, ⟨by decide +kernel, by decide +kernel, by decide +kernel⟩, by decide +kernel, by decide⟩
theorem m0_X6_giveAlong : ML0 mX6_giveAlong 1 := ⟨in_place 850 (by decide +kernel) rfl, in_place 77 (by decide +kernel) rfl, ⟨by decide +kernel, by decide +kernel, by decide +kernel⟩, by decide +kernel, by decide⟩
theorem m0_X6_measuresAlong : ML0 mX6_measuresAlong 1 := ⟨in_place 854 (by decide +kernel) rfl, in_place 77 (by decide +kernel) rfl, ⟨by decide +kernel, by decide +kernel, by decide +kernel⟩, by decide +kernel, by decide⟩
theorem m0_X8_scan : ML0 mX8_scan 2 := ⟨in_place 563 (by decide +kernel) rfl, in_place 74 (by decide +kernel) rfl, ⟨by decide +kernel, by decide +kernel, by decide +kernel⟩, by decide +kernel, by decide⟩
theorem m0_X8_add : ML0 mX8_add 3 := ⟨in_place 581 (by decide +kernel) rfl, in_place 74 (by decide +kernel) rfl, ⟨by decide +kernel, by decide +kernel, by decide +kernel⟩, by decide +kernel, by decide⟩
theorem m0_X8_addNumber : ML0 mX8_addNumber 3 := ⟨in_place 657 (by decide +kernel) rfl, in_place 74 (by decide +kernel) rfl, ⟨by decide +kernel, by decide +kernel, by decide +kernel⟩, by decide +kernel, by decide⟩
theorem m0_X8_addName : ML0 mX8_addName 3 := ⟨in_place 571 (by decide +kernel) rfl, in_place 74 (by decide +kernel) rfl, ⟨by decide +kernel, by decide +kernel, by decide +kernel⟩, by decide +kernel, by decide⟩
theorem m0_X8_isTownName : ML0 mX8_isTownName 3 := ⟨in_place 574 (by decide +kernel) rfl, in_place 74 (by decide +kernel) rfl, ⟨by decide +kernel, by decide +kernel, by decide +kernel⟩, by decide +kernel, by decide⟩
theorem m0_X8_kindOf : ML0 mX8_kindOf 3 := ⟨in_place 584 (by decide +kernel) rfl, in_place 74 (by decide +kernel) rfl, ⟨by decide +kernel, by decide +kernel, by decide +kernel⟩, by decide +kernel, by decide⟩
theorem m0_X8_wordOf : ML0 mX8_wordOf 3 := ⟨in_place 641 (by decide +kernel) rfl, in_place 74 (by decide +kernel) rfl, ⟨by decide +kernel, by decide +kernel, by decide +kernel⟩, by decide +kernel, by decide⟩
theorem m0_X8_spells : ML0 mX8_spells 4 := ⟨in_place 588 (by decide +kernel) rfl, in_place 74 (by decide +kernel) rfl, ⟨by decide +kernel, by decide +kernel, by decide +kernel⟩, by decide +kernel, by decide⟩
theorem m0_X8_isLetter : ML0 mX8_isLetter 1 := ⟨in_place 566 (by decide +kernel) rfl, in_place 74 (by decide +kernel) rfl, ⟨by decide +kernel, by decide +kernel, by decide +kernel⟩, by decide +kernel, by decide⟩
theorem m0_X8_isDigit : ML0 mX8_isDigit 1 := ⟨in_place 577 (by decide +kernel) rfl, in_place 74 (by decide +kernel) rfl, ⟨by decide +kernel, by decide +kernel, by decide +kernel⟩, by decide +kernel, by decide⟩
theorem m0_X8_isSign : ML0 mX8_isSign 1 := ⟨in_place 660 (by decide +kernel) rfl, in_place 74 (by decide +kernel) rfl, ⟨by decide +kernel, by decide +kernel, by decide +kernel⟩, by decide +kernel, by decide⟩
theorem m0_X9_roomLeft : ML0 mX9_roomLeft 0 := ⟨in_place 520 (by decide +kernel) rfl, in_place 69 (by decide +kernel) rfl, ⟨by decide +kernel, by decide +kernel, by decide +kernel⟩, by decide +kernel, by decide⟩
theorem m0_X9_store : ML0 mX9_store 3 := ⟨in_place 516 (by decide +kernel) rfl, in_place 69 (by decide +kernel) rfl, ⟨by decide +kernel, by decide +kernel, by decide +kernel⟩, by decide +kernel, by decide⟩
theorem m0_X9_removeOfAge : ML0 mX9_removeOfAge 3 := ⟨in_place 535 (by decide +kernel) rfl, in_place 69 (by decide +kernel) rfl, ⟨by decide +kernel, by decide +kernel, by decide +kernel⟩, by decide +kernel, by decide⟩
theorem m0_X9_removeOldest : ML0 mX9_removeOldest 2 := ⟨in_place 531 (by decide +kernel) rfl, in_place 69 (by decide +kernel) rfl, ⟨by decide +kernel, by decide +kernel, by decide +kernel⟩, by decide +kernel, by decide⟩
theorem m0_X9_measuresOfTheOldest : ML0 mX9_measuresOfTheOldest 1 := ⟨in_place 770 (by decide +kernel) rfl, in_place 69 (by decide +kernel) rfl, ⟨by decide +kernel, by decide +kernel, by decide +kernel⟩, by decide +kernel, by decide⟩
theorem m0_X9_grow : ML0 mX9_grow 2 := ⟨in_place 748 (by decide +kernel) rfl, in_place 69 (by decide +kernel) rfl, ⟨by decide +kernel, by decide +kernel, by decide +kernel⟩, by decide +kernel, by decide⟩
theorem m0_X10_town : ML0 mX10_town 3 := ⟨in_place 484 (by decide +kernel) rfl, in_place 67 (by decide +kernel) rfl, ⟨by decide +kernel, by decide +kernel, by decide +kernel⟩, by decide +kernel, by decide⟩
theorem m0_X10_way : ML0 mX10_way 3 := ⟨in_place 496 (by decide +kernel) rfl, in_place 67 (by decide +kernel) rfl, ⟨by decide +kernel, by decide +kernel, by decide +kernel⟩, by decide +kernel, by decide⟩
theorem m0_X10_keeps : ML0 mX10_keeps 2 := ⟨in_place 505 (by decide +kernel) rfl, in_place 67 (by decide +kernel) rfl, ⟨by decide +kernel, by decide +kernel, by decide +kernel⟩, by decide +kernel, by decide⟩
theorem m0_X10_put : ML0 mX10_put 4 := ⟨in_place 512 (by decide +kernel) rfl, in_place 67 (by decide +kernel) rfl, ⟨by decide +kernel, by decide +kernel, by decide +kernel⟩, by decide +kernel, by decide⟩
theorem m0_X10_take : ML0 mX10_take 3 := ⟨in_place 527 (by decide +kernel) rfl, in_place 67 (by decide +kernel) rfl, ⟨by decide +kernel, by decide +kernel, by decide +kernel⟩, by decide +kernel, by decide⟩
theorem m0_X10_stock : ML0 mX10_stock 3 := ⟨in_place 539 (by decide +kernel) rfl, in_place 67 (by decide +kernel) rfl, ⟨by decide +kernel, by decide +kernel, by decide +kernel⟩, by decide +kernel, by decide⟩
theorem m0_X10_feed : ML0 mX10_feed 5 := ⟨in_place 543 (by decide +kernel) rfl, in_place 67 (by decide +kernel) rfl, ⟨by decide +kernel, by decide +kernel, by decide +kernel⟩, by decide +kernel, by decide⟩
theorem m0_X10_end : ML0 mX10_end 1 := ⟨in_place 551 (by decide +kernel) rfl, in_place 67 (by decide +kernel) rfl, ⟨by decide +kernel, by decide +kernel, by decide +kernel⟩, by decide +kernel, by decide⟩
theorem m0_X10_orders : ML0 mX10_orders 0 := ⟨in_place 555 (by decide +kernel) rfl, in_place 67 (by decide +kernel) rfl, ⟨by decide +kernel, by decide +kernel, by decide +kernel⟩, by decide +kernel, by decide⟩
theorem m0_X10_fault : ML0 mX10_fault 1 := ⟨in_place 715 (by decide +kernel) rfl, in_place 67 (by decide +kernel) rfl, ⟨by decide +kernel, by decide +kernel, by decide +kernel⟩, by decide +kernel, by decide⟩
theorem m0_X10_months : ML0 mX10_months 1 := ⟨in_place 719 (by decide +kernel) rfl, in_place 67 (by decide +kernel) rfl, ⟨by decide +kernel, by decide +kernel, by decide +kernel⟩, by decide +kernel, by decide⟩
theorem m0_X10_sum : ML0 mX10_sum 1 := ⟨in_place 787 (by decide +kernel) rfl, in_place 67 (by decide +kernel) rfl, ⟨by decide +kernel, by decide +kernel, by decide +kernel⟩, by decide +kernel, by decide⟩
theorem m0_X10_feast : ML0 mX10_feast 4 := ⟨in_place 795 (by decide +kernel) rfl, in_place 67 (by decide +kernel) rfl, ⟨by decide +kernel, by decide +kernel, by decide +kernel⟩, by decide +kernel, by decide⟩
theorem m0_X10_cancel : ML0 mX10_cancel 0 := ⟨in_place 803 (by decide +kernel) rfl, in_place 67 (by decide +kernel) rfl, ⟨by decide +kernel, by decide +kernel, by decide +kernel⟩, by decide +kernel, by decide⟩
theorem m0_X10_fed : ML0 mX10_fed 0 := ⟨in_place 807 (by decide +kernel) rfl, in_place 67 (by decide +kernel) rfl, ⟨by decide +kernel, by decide +kernel, by decide +kernel⟩, by decide +kernel, by decide⟩
theorem m0_X10_carried : ML0 mX10_carried 0 := ⟨in_place 859 (by decide +kernel) rfl, in_place 67 (by decide +kernel) rfl, ⟨by decide +kernel, by decide +kernel, by decide +kernel⟩, by decide +kernel, by decide⟩
theorem m0_X10_call : ML0 mX10_call 1 := ⟨in_place 863 (by decide +kernel) rfl, in_place 67 (by decide +kernel) rfl, ⟨by decide +kernel, by decide +kernel, by decide +kernel⟩, by decide +kernel, by decide⟩
theorem m0_X10_gave : ML0 mX10_gave 1 := ⟨in_place 875 (by decide +kernel) rfl, in_place 67 (by decide +kernel) rfl, ⟨by decide +kernel, by decide +kernel, by decide +kernel⟩, by decide +kernel, by decide⟩
theorem m0_X10_tell : ML0 mX10_tell 5 := ⟨in_place 879 (by decide +kernel) rfl, in_place 67 (by decide +kernel) rfl, ⟨by decide +kernel, by decide +kernel, by decide +kernel⟩, by decide +kernel, by decide⟩
theorem m0_X10_untell : ML0 mX10_untell 1 := ⟨in_place 889 (by decide +kernel) rfl, in_place 67 (by decide +kernel) rfl, ⟨by decide +kernel, by decide +kernel, by decide +kernel⟩, by decide +kernel, by decide⟩
theorem m0_X10_count : ML0 mX10_count 4 := ⟨in_place 898 (by decide +kernel) rfl, in_place 67 (by decide +kernel) rfl, ⟨by decide +kernel, by decide +kernel, by decide +kernel⟩, by decide +kernel, by decide⟩
theorem m0_X10_agree : ML0 mX10_agree 4 := ⟨in_place 915 (by decide +kernel) rfl, in_place 67 (by decide +kernel) rfl, ⟨by decide +kernel, by decide +kernel, by decide +kernel⟩, by decide +kernel, by decide⟩
theorem m0_X10_of : ML0 mX10_of 2 := ⟨in_place 919 (by decide +kernel) rfl, in_place 67 (by decide +kernel) rfl, ⟨by decide +kernel, by decide +kernel, by decide +kernel⟩, by decide +kernel, by decide⟩
theorem m0_X10_about : ML0 mX10_about 1 := ⟨in_place 924 (by decide +kernel) rfl, in_place 67 (by decide +kernel) rfl, ⟨by decide +kernel, by decide +kernel, by decide +kernel⟩, by decide +kernel, by decide⟩
theorem m0_X10_write : ML0 mX10_write 1 := ⟨in_place 547 (by decide +kernel) rfl, in_place 67 (by decide +kernel) rfl, ⟨by decide +kernel, by decide +kernel, by decide +kernel⟩, by decide +kernel, by decide⟩
theorem m0_X10_passMonth : ML0 mX10_passMonth 0 := ⟨in_place 723 (by decide +kernel) rfl, in_place 67 (by decide +kernel) rfl, ⟨by decide +kernel, by decide +kernel, by decide +kernel⟩, by decide +kernel, by decide⟩
theorem m0_X10_obey : ML0 mX10_obey 2 := ⟨in_place 778 (by decide +kernel) rfl, in_place 67 (by decide +kernel) rfl, ⟨by decide +kernel, by decide +kernel, by decide +kernel⟩, by decide +kernel, by decide⟩
theorem m0_X10_within : ML0 mX10_within 3 := ⟨in_place 488 (by decide +kernel) rfl, in_place 67 (by decide +kernel) rfl, ⟨by decide +kernel, by decide +kernel, by decide +kernel⟩, by decide +kernel, by decide⟩
theorem m0_X10_isKind : ML0 mX10_isKind 1 := ⟨in_place 508 (by decide +kernel) rfl, in_place 67 (by decide +kernel) rfl, ⟨by decide +kernel, by decide +kernel, by decide +kernel⟩, by decide +kernel, by decide⟩
theorem m0_X10_subject : ML0 mX10_subject 2 := ⟨in_place 703 (by decide +kernel) rfl, in_place 67 (by decide +kernel) rfl, ⟨by decide +kernel, by decide +kernel, by decide +kernel⟩, by decide +kernel, by decide⟩
theorem m0_X10_monthsOnTheWay : ML0 mX10_monthsOnTheWay 1 := ⟨in_place 781 (by decide +kernel) rfl, in_place 67 (by decide +kernel) rfl, ⟨by decide +kernel, by decide +kernel, by decide +kernel⟩, by decide +kernel, by decide⟩
theorem m0_X11_isTown : ML0 mX11_isTown 1 := ⟨in_place 1154 (by decide +kernel) rfl, in_place 79 (by decide +kernel) rfl, ⟨by decide +kernel, by decide +kernel, by decide +kernel⟩, by decide +kernel, by decide⟩
theorem m0_X11_isKind : ML0 mX11_isKind 1 := ⟨in_place 1161 (by decide +kernel) rfl, in_place 79 (by decide +kernel) rfl, ⟨by decide +kernel, by decide +kernel, by decide +kernel⟩, by decide +kernel, by decide⟩
theorem m0_X11_lot : ML0 mX11_lot 3 := ⟨in_place 1183 (by decide +kernel) rfl, in_place 79 (by decide +kernel) rfl, ⟨by decide +kernel, by decide +kernel, by decide +kernel⟩, by decide +kernel, by decide⟩
theorem m0_X11_town : ML0 mX11_town 3 := ⟨in_place 1145 (by decide +kernel) rfl, in_place 79 (by decide +kernel) rfl, ⟨by decide +kernel, by decide +kernel, by decide +kernel⟩, by decide +kernel, by decide⟩
theorem m0_X11_way : ML0 mX11_way 3 := ⟨in_place 1150 (by decide +kernel) rfl, in_place 79 (by decide +kernel) rfl, ⟨by decide +kernel, by decide +kernel, by decide +kernel⟩, by decide +kernel, by decide⟩
theorem m0_X11_keeps : ML0 mX11_keeps 2 := ⟨in_place 1158 (by decide +kernel) rfl, in_place 79 (by decide +kernel) rfl, ⟨by decide +kernel, by decide +kernel, by decide +kernel⟩, by decide +kernel, by decide⟩
theorem m0_X11_inStore : ML0 mX11_inStore 1 := ⟨in_place 1180 (by decide +kernel) rfl, in_place 79 (by decide +kernel) rfl, ⟨by decide +kernel, by decide +kernel, by decide +kernel⟩, by decide +kernel, by decide⟩
theorem m0_X11_space : ML0 mX11_space 1 := ⟨in_place 1176 (by decide +kernel) rfl, in_place 79 (by decide +kernel) rfl, ⟨by decide +kernel, by decide +kernel, by decide +kernel⟩, by decide +kernel, by decide⟩
theorem m0_X11_comeIn : ML0 mX11_comeIn 4 := ⟨in_place 1172 (by decide +kernel) rfl, in_place 79 (by decide +kernel) rfl, ⟨by decide +kernel, by decide +kernel, by decide +kernel⟩, by decide +kernel, by decide⟩
theorem m0_X11_areMeasures : ML0 mX11_areMeasures 1 := ⟨in_place 1168 (by decide +kernel) rfl, in_place 79 (by decide +kernel) rfl, ⟨by decide +kernel, by decide +kernel, by decide +kernel⟩, by decide +kernel, by decide⟩
theorem m0_X11_put : ML0 mX11_put 4 := ⟨in_place 1165 (by decide +kernel) rfl, in_place 79 (by decide +kernel) rfl, ⟨by decide +kernel, by decide +kernel, by decide +kernel⟩, by decide +kernel, by decide⟩
theorem m0_X11_goOut : ML0 mX11_goOut 3 := ⟨in_place 1191 (by decide +kernel) rfl, in_place 79 (by decide +kernel) rfl, ⟨by decide +kernel, by decide +kernel, by decide +kernel⟩, by decide +kernel, by decide⟩
theorem m0_X11_take : ML0 mX11_take 3 := ⟨in_place 1187 (by decide +kernel) rfl, in_place 79 (by decide +kernel) rfl, ⟨by decide +kernel, by decide +kernel, by decide +kernel⟩, by decide +kernel, by decide⟩
theorem m0_X11_stockOf : ML0 mX11_stockOf 2 := ⟨in_place 1199 (by decide +kernel) rfl, in_place 79 (by decide +kernel) rfl, ⟨by decide +kernel, by decide +kernel, by decide +kernel⟩, by decide +kernel, by decide⟩
theorem m0_X11_stock : ML0 mX11_stock 3 := ⟨in_place 1195 (by decide +kernel) rfl, in_place 79 (by decide +kernel) rfl, ⟨by decide +kernel, by decide +kernel, by decide +kernel⟩, by decide +kernel, by decide⟩
theorem m0_X11_oldOf : ML0 mX11_oldOf 2 := ⟨in_place 1332 (by decide +kernel) rfl, in_place 79 (by decide +kernel) rfl, ⟨by decide +kernel, by decide +kernel, by decide +kernel⟩, by decide +kernel, by decide⟩
theorem m0_X11_sign : ML0 mX11_sign 1 := ⟨in_place 1211 (by decide +kernel) rfl, in_place 79 (by decide +kernel) rfl, ⟨by decide +kernel, by decide +kernel, by decide +kernel⟩, by decide +kernel, by decide⟩
theorem m0_X11_isLetter : ML0 mX11_isLetter 1 := ⟨in_place 1214 (by decide +kernel) rfl, in_place 79 (by decide +kernel) rfl, ⟨by decide +kernel, by decide +kernel, by decide +kernel⟩, by decide +kernel, by decide⟩
theorem m0_X11_isDigit : ML0 mX11_isDigit 1 := ⟨in_place 1217 (by decide +kernel) rfl, in_place 79 (by decide +kernel) rfl, ⟨by decide +kernel, by decide +kernel, by decide +kernel⟩, by decide +kernel, by decide⟩
theorem m0_X11_fails : ML0 mX11_fails 2 := ⟨in_place 1239 (by decide +kernel) rfl, in_place 79 (by decide +kernel) rfl, ⟨by decide +kernel, by decide +kernel, by decide +kernel⟩, by decide +kernel, by decide⟩
theorem m0_X11_isGood : ML0 mX11_isGood 0 := ⟨in_place 1221 (by decide +kernel) rfl, in_place 79 (by decide +kernel) rfl, ⟨by decide +kernel, by decide +kernel, by decide +kernel⟩, by decide +kernel, by decide⟩
theorem m0_X11_next : ML0 mX11_next 0 := ⟨in_place 1207 (by decide +kernel) rfl, in_place 79 (by decide +kernel) rfl, ⟨by decide +kernel, by decide +kernel, by decide +kernel⟩, by decide +kernel, by decide⟩
theorem m0_X11_is : ML0 mX11_is 1 := ⟨in_place 1255 (by decide +kernel) rfl, in_place 79 (by decide +kernel) rfl, ⟨by decide +kernel, by decide +kernel, by decide +kernel⟩, by decide +kernel, by decide⟩
theorem m0_X11_isWord : ML0 mX11_isWord 1 := ⟨in_place 1230 (by decide +kernel) rfl, in_place 79 (by decide +kernel) rfl, ⟨by decide +kernel, by decide +kernel, by decide +kernel⟩, by decide +kernel, by decide⟩
theorem m0_X11_wrong : ML0 mX11_wrong 0 := ⟨in_place 1235 (by decide +kernel) rfl, in_place 79 (by decide +kernel) rfl, ⟨by decide +kernel, by decide +kernel, by decide +kernel⟩, by decide +kernel, by decide⟩
theorem m0_X11_must : ML0 mX11_must 1 := ⟨in_place 1277 (by decide +kernel) rfl, in_place 79 (by decide +kernel) rfl, ⟨by decide +kernel, by decide +kernel, by decide +kernel⟩, by decide +kernel, by decide⟩
theorem m0_X11_kindHere : ML0 mX11_kindHere 0 := ⟨in_place 1285 (by decide +kernel) rfl, in_place 79 (by decide +kernel) rfl, ⟨by decide +kernel, by decide +kernel, by decide +kernel⟩, by decide +kernel, by decide⟩
theorem m0_X11_aKind : ML0 mX11_aKind 0 := ⟨in_place 1281 (by decide +kernel) rfl, in_place 79 (by decide +kernel) rfl, ⟨by decide +kernel, by decide +kernel, by decide +kernel⟩, by decide +kernel, by decide⟩
theorem m0_X11_aNumber : ML0 mX11_aNumber 1 := ⟨in_place 1273 (by decide +kernel) rfl, in_place 79 (by decide +kernel) rfl, ⟨by decide +kernel, by decide +kernel, by decide +kernel⟩, by decide +kernel, by decide⟩
theorem m0_X11_orders : ML0 mX11_orders 0 := ⟨in_place 1203 (by decide +kernel) rfl, in_place 79 (by decide +kernel) rfl, ⟨by decide +kernel, by decide +kernel, by decide +kernel⟩, by decide +kernel, by decide⟩
theorem m0_X11_readLine : ML0 mX11_readLine 0 := ⟨in_place 1225 (by decide +kernel) rfl, in_place 79 (by decide +kernel) rfl, ⟨by decide +kernel, by decide +kernel, by decide +kernel⟩, by decide +kernel, by decide⟩
theorem m0_X11_step : ML0 mX11_step 3 := ⟨in_place 1292 (by decide +kernel) rfl, in_place 79 (by decide +kernel) rfl, ⟨by decide +kernel, by decide +kernel, by decide +kernel⟩, by decide +kernel, by decide⟩
theorem m0_X11_pile : ML0 mX11_pile 1 := ⟨in_place 1247 (by decide +kernel) rfl, in_place 79 (by decide +kernel) rfl, ⟨by decide +kernel, by decide +kernel, by decide +kernel⟩, by decide +kernel, by decide⟩
theorem m0_X11_e : ML0 mX11_e 0 := ⟨in_place 1243 (by decide +kernel) rfl, in_place 79 (by decide +kernel) rfl, ⟨by decide +kernel, by decide +kernel, by decide +kernel⟩, by decide +kernel, by decide⟩
theorem m0_X11_one : ML0 mX11_one 0 := ⟨in_place 1251 (by decide +kernel) rfl, in_place 79 (by decide +kernel) rfl, ⟨by decide +kernel, by decide +kernel, by decide +kernel⟩, by decide +kernel, by decide⟩
theorem m0_X11_readSum : ML0 mX11_readSum 0 := ⟨in_place 1260 (by decide +kernel) rfl, in_place 79 (by decide +kernel) rfl, ⟨by decide +kernel, by decide +kernel, by decide +kernel⟩, by decide +kernel, by decide⟩
theorem m0_X11_term : ML0 mX11_term 0 := ⟨in_place 1264 (by decide +kernel) rfl, in_place 79 (by decide +kernel) rfl, ⟨by decide +kernel, by decide +kernel, by decide +kernel⟩, by decide +kernel, by decide⟩
theorem m0_X11_behind : ML0 mX11_behind 0 := ⟨in_place 1296 (by decide +kernel) rfl, in_place 79 (by decide +kernel) rfl, ⟨by decide +kernel, by decide +kernel, by decide +kernel⟩, by decide +kernel, by decide⟩
theorem m0_X11_fault : ML0 mX11_fault 1 := ⟨in_place 1304 (by decide +kernel) rfl, in_place 79 (by decide +kernel) rfl, ⟨by decide +kernel, by decide +kernel, by decide +kernel⟩, by decide +kernel, by decide⟩
theorem m0_X11_leaf : ML0 mX11_leaf 3 := ⟨in_place 1328 (by decide +kernel) rfl, in_place 79 (by decide +kernel) rfl, ⟨by decide +kernel, by decide +kernel, by decide +kernel⟩, by decide +kernel, by decide⟩
theorem m0_X11_two : ML0 mX11_two 3 := ⟨in_place 1335 (by decide +kernel) rfl, in_place 79 (by decide +kernel) rfl, ⟨by decide +kernel, by decide +kernel, by decide +kernel⟩, by decide +kernel, by decide⟩
theorem m0_X11_holds : ML0 mX11_holds 1 := ⟨in_place 1324 (by decide +kernel) rfl, in_place 79 (by decide +kernel) rfl, ⟨by decide +kernel, by decide +kernel, by decide +kernel⟩, by decide +kernel, by decide⟩
theorem m0_X11_monthsFor : ML0 mX11_monthsFor 1 := ⟨in_place 1342 (by decide +kernel) rfl, in_place 79 (by decide +kernel) rfl, ⟨by decide +kernel, by decide +kernel, by decide +kernel⟩, by decide +kernel, by decide⟩
theorem m0_X11_arrive : ML0 mX11_arrive 0 := ⟨in_place 1312 (by decide +kernel) rfl, in_place 79 (by decide +kernel) rfl, ⟨by decide +kernel, by decide +kernel, by decide +kernel⟩, by decide +kernel, by decide⟩
theorem m0_X11_age : ML0 mX11_age 0 := ⟨in_place 1316 (by decide +kernel) rfl, in_place 79 (by decide +kernel) rfl, ⟨by decide +kernel, by decide +kernel, by decide +kernel⟩, by decide +kernel, by decide⟩
theorem m0_X11_eat : ML0 mX11_eat 0 := ⟨in_place 1320 (by decide +kernel) rfl, in_place 79 (by decide +kernel) rfl, ⟨by decide +kernel, by decide +kernel, by decide +kernel⟩, by decide +kernel, by decide⟩
theorem m0_X11_send : ML0 mX11_send 1 := ⟨in_place 1339 (by decide +kernel) rfl, in_place 79 (by decide +kernel) rfl, ⟨by decide +kernel, by decide +kernel, by decide +kernel⟩, by decide +kernel, by decide⟩
theorem m0_X11_months : ML0 mX11_months 1 := ⟨in_place 1308 (by decide +kernel) rfl, in_place 79 (by decide +kernel) rfl, ⟨by decide +kernel, by decide +kernel, by decide +kernel⟩, by decide +kernel, by decide⟩
theorem m0_X11_sum : ML0 mX11_sum 1 := ⟨in_place 1346 (by decide +kernel) rfl, in_place 79 (by decide +kernel) rfl, ⟨by decide +kernel, by decide +kernel, by decide +kernel⟩, by decide +kernel, by decide⟩
theorem m0_X11_feast : ML0 mX11_feast 4 := ⟨in_place 1350 (by decide +kernel) rfl, in_place 79 (by decide +kernel) rfl, ⟨by decide +kernel, by decide +kernel, by decide +kernel⟩, by decide +kernel, by decide⟩
theorem m0_X11_cancel : ML0 mX11_cancel 0 := ⟨in_place 1354 (by decide +kernel) rfl, in_place 79 (by decide +kernel) rfl, ⟨by decide +kernel, by decide +kernel, by decide +kernel⟩, by decide +kernel, by decide⟩
theorem m0_X11_canGo : ML0 mX11_canGo 2 := ⟨in_place 1379 (by decide +kernel) rfl, in_place 79 (by decide +kernel) rfl, ⟨by decide +kernel, by decide +kernel, by decide +kernel⟩, by decide +kernel, by decide⟩
theorem m0_X11_daysOf : ML0 mX11_daysOf 2 := ⟨in_place 1383 (by decide +kernel) rfl, in_place 79 (by decide +kernel) rfl, ⟨by decide +kernel, by decide +kernel, by decide +kernel⟩, by decide +kernel, by decide⟩
theorem m0_X11_feedAll : ML0 mX11_feedAll 0 := ⟨in_place 1362 (by decide +kernel) rfl, in_place 79 (by decide +kernel) rfl, ⟨by decide +kernel, by decide +kernel, by decide +kernel⟩, by decide +kernel, by decide⟩
theorem m0_X11_measure : ML0 mX11_measure 1 := ⟨in_place 1370 (by decide +kernel) rfl, in_place 79 (by decide +kernel) rfl, ⟨by decide +kernel, by decide +kernel, by decide +kernel⟩, by decide +kernel, by decide⟩
theorem m0_X11_nearer : ML0 mX11_nearer 1 := ⟨in_place 1375 (by decide +kernel) rfl, in_place 79 (by decide +kernel) rfl, ⟨by decide +kernel, by decide +kernel, by decide +kernel⟩, by decide +kernel, by decide⟩
theorem m0_X11_giveMore : ML0 mX11_giveMore 1 := ⟨in_place 1366 (by decide +kernel) rfl, in_place 79 (by decide +kernel) rfl, ⟨by decide +kernel, by decide +kernel, by decide +kernel⟩, by decide +kernel, by decide⟩
theorem m0_X11_fed : ML0 mX11_fed 0 := ⟨in_place 1358 (by decide +kernel) rfl, in_place 79 (by decide +kernel) rfl, ⟨by decide +kernel, by decide +kernel, by decide +kernel⟩, by decide +kernel, by decide⟩
theorem m0_X11_carried : ML0 mX11_carried 0 := ⟨in_place 1387 (by decide +kernel) rfl, in_place 79 (by decide +kernel) rfl, ⟨by decide +kernel, by decide +kernel, by decide +kernel⟩, by decide +kernel, by decide⟩
theorem m0_X11_call : ML0 mX11_call 1 := ⟨in_place 1391 (by decide +kernel) rfl, in_place 79 (by decide +kernel) rfl, ⟨by decide +kernel, by decide +kernel, by decide +kernel⟩, by decide +kernel, by decide⟩
theorem m0_X11_lacks : ML0 mX11_lacks 2 := ⟨in_place 1395 (by decide +kernel) rfl, in_place 79 (by decide +kernel) rfl, ⟨by decide +kernel, by decide +kernel, by decide +kernel⟩, by decide +kernel, by decide⟩
theorem m0_X11_gave : ML0 mX11_gave 1 := ⟨in_place 1399 (by decide +kernel) rfl, in_place 79 (by decide +kernel) rfl, ⟨by decide +kernel, by decide +kernel, by decide +kernel⟩, by decide +kernel, by decide⟩
theorem m0_X11_tell : ML0 mX11_tell 5 := ⟨in_place 1403 (by decide +kernel) rfl, in_place 79 (by decide +kernel) rfl, ⟨by decide +kernel, by decide +kernel, by decide +kernel⟩, by decide +kernel, by decide⟩
theorem m0_X11_untell : ML0 mX11_untell 1 := ⟨in_place 1408 (by decide +kernel) rfl, in_place 79 (by decide +kernel) rfl, ⟨by decide +kernel, by decide +kernel, by decide +kernel⟩, by decide +kernel, by decide⟩
theorem m0_X11_count : ML0 mX11_count 4 := ⟨in_place 1412 (by decide +kernel) rfl, in_place 79 (by decide +kernel) rfl, ⟨by decide +kernel, by decide +kernel, by decide +kernel⟩, by decide +kernel, by decide⟩
theorem m0_X11_agree : ML0 mX11_agree 4 := ⟨in_place 1416 (by decide +kernel) rfl, in_place 79 (by decide +kernel) rfl, ⟨by decide +kernel, by decide +kernel, by decide +kernel⟩, by decide +kernel, by decide⟩
theorem m0_X11_of : ML0 mX11_of 2 := ⟨in_place 1421 (by decide +kernel) rfl, in_place 79 (by decide +kernel) rfl, ⟨by decide +kernel, by decide +kernel, by decide +kernel⟩, by decide +kernel, by decide⟩
theorem m0_X11_about : ML0 mX11_about 1 := ⟨in_place 1425 (by decide +kernel) rfl, in_place 79 (by decide +kernel) rfl, ⟨by decide +kernel, by decide +kernel, by decide +kernel⟩, by decide +kernel, by decide⟩
theorem m0_X11_feed : ML0 mX11_feed 5 := ⟨in_place 1429 (by decide +kernel) rfl, in_place 79 (by decide +kernel) rfl, ⟨by decide +kernel, by decide +kernel, by decide +kernel⟩, by decide +kernel, by decide⟩
theorem m0_X11_end : ML0 mX11_end 1 := ⟨in_place 1433 (by decide +kernel) rfl, in_place 79 (by decide +kernel) rfl, ⟨by decide +kernel, by decide +kernel, by decide +kernel⟩, by decide +kernel, by decide⟩
theorem m0_J0_length_8abf5 : ML0 mJ0_length_8abf5 0 := ⟨in_place 592 (by decide +kernel) rfl, in_place 81 (by decide +kernel) rfl, ⟨by decide +kernel, by decide +kernel, by decide +kernel⟩, by decide +kernel, by decide⟩
theorem m0_J0_charAt_5068e : ML0 mJ0_charAt_5068e 1 := ⟨in_place 602 (by decide +kernel) rfl, in_place 81 (by decide +kernel) rfl, ⟨by decide +kernel, by decide +kernel, by decide +kernel⟩, by decide +kernel, by decide⟩
theorem m0_J0_coder_7d493 : ML0 mJ0_coder_7d493 0 := ⟨in_place 596 (by decide +kernel) rfl, in_place 81 (by decide +kernel) rfl, ⟨by decide +kernel, by decide +kernel, by decide +kernel⟩, by decide +kernel, by decide⟩
theorem m0_J0_isLatin1_aae02 : ML0 mJ0_isLatin1_aae02 0 := ⟨in_place 606 (by decide +kernel) rfl, in_place 81 (by decide +kernel) rfl, ⟨by decide +kernel, by decide +kernel, by decide +kernel⟩, by decide +kernel, by decide⟩
theorem m0_J0_checkIndex_df160 : ML0 mJ0_checkIndex_df160 2 := ⟨in_place 612 (by decide +kernel) rfl, in_place 81 (by decide +kernel) rfl, ⟨by decide +kernel, by decide +kernel, by decide +kernel⟩, by decide +kernel, by decide⟩
theorem m0_J1_charAt_3b067 : ML0 mJ1_charAt_3b067 2 := ⟨in_place 609 (by decide +kernel) rfl, in_place 82 (by decide +kernel) rfl, ⟨by decide +kernel, by decide +kernel, by decide +kernel⟩, by decide +kernel, by decide⟩
theorem m0_J2_getChar_3b067 : ML0 mJ2_getChar_3b067 2 := ⟨in_place 630 (by decide +kernel) rfl, in_place 84 (by decide +kernel) rfl, ⟨by decide +kernel, by decide +kernel, by decide +kernel⟩, by decide +kernel, by decide⟩
theorem m0_J2_length_9d52b : ML0 mJ2_length_9d52b 1 := ⟨in_place 626 (by decide +kernel) rfl, in_place 84 (by decide +kernel) rfl, ⟨by decide +kernel, by decide +kernel, by decide +kernel⟩, by decide +kernel, by decide⟩
theorem m0_J2_charAt_3b067 : ML0 mJ2_charAt_3b067 2 := ⟨in_place 620 (by decide +kernel) rfl, in_place 84 (by decide +kernel) rfl, ⟨by decide +kernel, by decide +kernel, by decide +kernel⟩, by decide +kernel, by decide⟩
theorem m0_J2_checkIndex_2214a : ML0 mJ2_checkIndex_2214a 2 := ⟨in_place 623 (by decide +kernel) rfl, in_place 84 (by decide +kernel) rfl, ⟨by decide +kernel, by decide +kernel, by decide +kernel⟩, by decide +kernel, by decide⟩
theorem m0_J7_fill_53178 : ML0 mJ7_fill_53178 2 := ⟨in_place 141 (by decide +kernel) rfl, in_place 70 (by decide +kernel) rfl, ⟨by decide +kernel, by decide +kernel, by decide +kernel⟩, by decide +kernel, by decide⟩
theorem ml_X10_63 : MLS RX10 63 mX10_within 3 := ⟨m0_X10_within, in_place 487 (by decide +kernel) rfl, Or.inl (in_place 486 (by decide +kernel) rfl)⟩
theorem ml_X10_67 : MLV RX10 67 mX2_found 3 := ⟨m0_X2_found, in_place 489 (by decide +kernel) rfl, in_place 490 (by decide +kernel) rfl, in_place 491 (by decide +kernel) rfl⟩
theorem ml_X10_71 : MLV RX10 71 mX2_hasTown 1 := ⟨m0_X2_hasTown, in_place 497 (by decide +kernel) rfl, in_place 498 (by decide +kernel) rfl, in_place 499 (by decide +kernel) rfl⟩
theorem ml_X10_79 : MLS RX10 79 mX10_isKind 1 := ⟨m0_X10_isKind, in_place 507 (by decide +kernel) rfl, Or.inl (in_place 506 (by decide +kernel) rfl)⟩
theorem ml_X10_90 : MLV RX10 90 mX9_store 3 := ⟨m0_X9_store, in_place 513 (by decide +kernel) rfl, in_place 514 (by decide +kernel) rfl, in_place 515 (by decide +kernel) rfl⟩
theorem ml_X10_99 : MLV RX10 99 mX9_removeOldest 2 := ⟨m0_X9_removeOldest, in_place 528 (by decide +kernel) rfl, in_place 529 (by decide +kernel) rfl, in_place 530 (by decide +kernel) rfl⟩
theorem ml_X10_112 : MLV RX10 112 mX10_write 1 := ⟨m0_X10_write, in_place 544 (by decide +kernel) rfl, in_place 546 (by decide +kernel) rfl, in_place 0 (by decide +kernel) rfl⟩
theorem ml_X10_116 : MLV RX10 116 mX4_read 2 := ⟨m0_X4_read, in_place 556 (by decide +kernel) rfl, in_place 557 (by decide +kernel) rfl, in_place 558 (by decide +kernel) rfl⟩
theorem ml_X10_129 : MLV RX10 129 mX10_passMonth 0 := ⟨m0_X10_passMonth, in_place 720 (by decide +kernel) rfl, in_place 722 (by decide +kernel) rfl, in_place 13 (by decide +kernel) rfl⟩
theorem ml_X10_138 : MLV RX10 138 mX0_allMeasures 0 := ⟨m0_X0_allMeasures, in_place 788 (by decide +kernel) rfl, in_place 789 (by decide +kernel) rfl, in_place 790 (by decide +kernel) rfl⟩
theorem ml_X10_148 : MLV RX10 148 mX1_add 4 := ⟨m0_X1_add, in_place 796 (by decide +kernel) rfl, in_place 797 (by decide +kernel) rfl, in_place 798 (by decide +kernel) rfl⟩
theorem ml_X10_153 : MLV RX10 153 mX6_plan 2 := ⟨m0_X6_plan, in_place 808 (by decide +kernel) rfl, in_place 809 (by decide +kernel) rfl, in_place 810 (by decide +kernel) rfl⟩
theorem ml_X10_166 : MLV RX10 166 mX2_allTens 0 := ⟨m0_X2_allTens, in_place 864 (by decide +kernel) rfl, in_place 865 (by decide +kernel) rfl, in_place 866 (by decide +kernel) rfl⟩
theorem ml_X10_169 : MLV RX10 169 mX2_takeHand 1 := ⟨m0_X2_takeHand, in_place 868 (by decide +kernel) rfl, in_place 869 (by decide +kernel) rfl, in_place 870 (by decide +kernel) rfl⟩
theorem ml_X10_176 : MLS RX10 176 mX10_subject 2 := ⟨m0_X10_subject, in_place 702 (by decide +kernel) rfl, Or.inl (in_place 881 (by decide +kernel) rfl)⟩
theorem ml_X10_179 : MLV RX10 179 mX3_add 5 := ⟨m0_X3_add, in_place 882 (by decide +kernel) rfl, in_place 883 (by decide +kernel) rfl, in_place 884 (by decide +kernel) rfl⟩
theorem ml_X10_182 : MLV RX10 182 mX3_withdraw 2 := ⟨m0_X3_withdraw, in_place 890 (by decide +kernel) rfl, in_place 891 (by decide +kernel) rfl, in_place 892 (by decide +kernel) rfl⟩
theorem ml_X10_186 : MLV RX10 186 mX3_hear 3 := ⟨m0_X3_hear, in_place 899 (by decide +kernel) rfl, in_place 900 (by decide +kernel) rfl, in_place 901 (by decide +kernel) rfl⟩
theorem ml_X10_205 : MLV RX10 205 mX9_roomLeft 0 := ⟨m0_X9_roomLeft, in_place 920 (by decide +kernel) rfl, in_place 518 (by decide +kernel) rfl, in_place 519 (by decide +kernel) rfl⟩
theorem ml_X10_221 : MLV RX10 221 mX0_arrive 2 := ⟨m0_X0_arrive, in_place 724 (by decide +kernel) rfl, in_place 725 (by decide +kernel) rfl, in_place 726 (by decide +kernel) rfl⟩
theorem ml_X10_225 : MLV RX10 225 mX0_grow 0 := ⟨m0_X0_grow, in_place 737 (by decide +kernel) rfl, in_place 738 (by decide +kernel) rfl, in_place 739 (by decide +kernel) rfl⟩
theorem ml_X10_228 : MLV RX10 228 mX2_growLots 1 := ⟨m0_X2_growLots, in_place 741 (by decide +kernel) rfl, in_place 742 (by decide +kernel) rfl, in_place 743 (by decide +kernel) rfl⟩
theorem ml_X10_232 : MLV RX10 232 mX2_eat 1 := ⟨m0_X2_eat, in_place 749 (by decide +kernel) rfl, in_place 750 (by decide +kernel) rfl, in_place 751 (by decide +kernel) rfl⟩
theorem ml_X10_235 : MLV RX10 235 mX5_holds 2 := ⟨m0_X5_holds, in_place 754 (by decide +kernel) rfl, in_place 755 (by decide +kernel) rfl, in_place 756 (by decide +kernel) rfl⟩
theorem ml_X10_239 : MLV RX10 239 mX10_obey 2 := ⟨m0_X10_obey, in_place 775 (by decide +kernel) rfl, in_place 777 (by decide +kernel) rfl, in_place 15 (by decide +kernel) rfl⟩
theorem ml_X10_252 : MLS RX10 252 mX10_monthsOnTheWay 1 := ⟨m0_X10_monthsOnTheWay, in_place 780 (by decide +kernel) rfl, Or.inl (in_place 779 (by decide +kernel) rfl)⟩
theorem ml_X10_259 : MLV RX10 259 mX9_removeOfAge 3 := ⟨m0_X9_removeOfAge, in_place 782 (by decide +kernel) rfl, in_place 533 (by decide +kernel) rfl, in_place 534 (by decide +kernel) rfl⟩
theorem ml_X10_262 : MLV RX10 262 mX0_send 5 := ⟨m0_X0_send, in_place 783 (by decide +kernel) rfl, in_place 734 (by decide +kernel) rfl, in_place 735 (by decide +kernel) rfl⟩
theorem ml_X0_36 : MLV RX0 36 mX0_unload 3 := ⟨m0_X0_unload, in_place 728 (by decide +kernel) rfl, in_place 730 (by decide +kernel) rfl, in_place 14 (by decide +kernel) rfl⟩
theorem ml_X0_40 : MLV RX0 40 mX0_send 5 := ⟨m0_X0_send, in_place 733 (by decide +kernel) rfl, in_place 734 (by decide +kernel) rfl, in_place 735 (by decide +kernel) rfl⟩
theorem ml_X0_59 : MLV RX0 59 mX9_store 3 := ⟨m0_X9_store, in_place 732 (by decide +kernel) rfl, in_place 514 (by decide +kernel) rfl, in_place 515 (by decide +kernel) rfl⟩
theorem ml_X2_27 : MLS RX2 27 mJ7_fill_53178 2 := ⟨m0_J7_fill_53178, in_place 140 (by decide +kernel) rfl, Or.inl (in_place 139 (by decide +kernel) rfl)⟩
theorem ml_X2_55 : MLV RX2 55 mX9_grow 2 := ⟨m0_X9_grow, in_place 745 (by decide +kernel) rfl, in_place 746 (by decide +kernel) rfl, in_place 747 (by decide +kernel) rfl⟩
theorem ml_X2_62 : MLV RX2 62 mX9_removeOldest 2 := ⟨m0_X9_removeOldest, in_place 753 (by decide +kernel) rfl, in_place 529 (by decide +kernel) rfl, in_place 530 (by decide +kernel) rfl⟩
theorem ml_X3_44 : MLV RX3 44 mX3_gatherVoices 3 := ⟨m0_X3_gatherVoices, in_place 903 (by decide +kernel) rfl, in_place 905 (by decide +kernel) rfl, in_place 25 (by decide +kernel) rfl⟩
theorem ml_X3_51 : MLV RX3 51 mX3_voicesFor 1 := ⟨m0_X3_voicesFor, in_place 908 (by decide +kernel) rfl, in_place 910 (by decide +kernel) rfl, in_place 26 (by decide +kernel) rfl⟩
theorem ml_X3_55 : MLS RX3 55 mJ7_fill_53178 2 := ⟨m0_J7_fill_53178, in_place 140 (by decide +kernel) rfl, Or.inl (in_place 907 (by decide +kernel) rfl)⟩
theorem ml_X4_32 : MLV RX4 32 mX8_scan 2 := ⟨m0_X8_scan, in_place 560 (by decide +kernel) rfl, in_place 561 (by decide +kernel) rfl, in_place 562 (by decide +kernel) rfl⟩
theorem ml_X4_36 : MLV RX4 36 mX5_clear 0 := ⟨m0_X5_clear, in_place 661 (by decide +kernel) rfl, in_place 662 (by decide +kernel) rfl, in_place 663 (by decide +kernel) rfl⟩
theorem ml_X4_49 : MLV RX4 49 mX4_here 0 := ⟨m0_X4_here, in_place 665 (by decide +kernel) rfl, in_place 667 (by decide +kernel) rfl, in_place 4 (by decide +kernel) rfl⟩
theorem ml_X4_53 : MLV RX4 53 mX4_readLine 0 := ⟨m0_X4_readLine, in_place 669 (by decide +kernel) rfl, in_place 671 (by decide +kernel) rfl, in_place 5 (by decide +kernel) rfl⟩
theorem ml_X4_57 : MLV RX4 57 mX4_noteFault 0 := ⟨m0_X4_noteFault, in_place 708 (by decide +kernel) rfl, in_place 710 (by decide +kernel) rfl, in_place 12 (by decide +kernel) rfl⟩
theorem ml_X4_81 : MLV RX4 81 mX4_accept 1 := ⟨m0_X4_accept, in_place 673 (by decide +kernel) rfl, in_place 675 (by decide +kernel) rfl, in_place 6 (by decide +kernel) rfl⟩
theorem ml_X4_85 : MLV RX4 85 mX4_readEither 1 := ⟨m0_X4_readEither, in_place 677 (by decide +kernel) rfl, in_place 679 (by decide +kernel) rfl, in_place 7 (by decide +kernel) rfl⟩
theorem ml_X4_88 : MLV RX4 88 mX4_valueHere 0 := ⟨m0_X4_valueHere, in_place 697 (by decide +kernel) rfl, in_place 699 (by decide +kernel) rfl, in_place 11 (by decide +kernel) rfl⟩
theorem ml_X4_91 : MLV RX4 91 mX5_addLine 4 := ⟨m0_X5_addLine, in_place 704 (by decide +kernel) rfl, in_place 705 (by decide +kernel) rfl, in_place 706 (by decide +kernel) rfl⟩
theorem ml_X4_95 : MLV RX4 95 mX4_readOne 1 := ⟨m0_X4_readOne, in_place 681 (by decide +kernel) rfl, in_place 683 (by decide +kernel) rfl, in_place 8 (by decide +kernel) rfl⟩
theorem ml_X4_98 : MLV RX4 98 mX5_addStep 2 := ⟨m0_X5_addStep, in_place 685 (by decide +kernel) rfl, in_place 686 (by decide +kernel) rfl, in_place 687 (by decide +kernel) rfl⟩
theorem ml_X4_102 : MLV RX4 102 mX4_readSum 0 := ⟨m0_X4_readSum, in_place 689 (by decide +kernel) rfl, in_place 691 (by decide +kernel) rfl, in_place 9 (by decide +kernel) rfl⟩
theorem ml_X4_105 : MLV RX4 105 mX4_readTerm 0 := ⟨m0_X4_readTerm, in_place 693 (by decide +kernel) rfl, in_place 695 (by decide +kernel) rfl, in_place 10 (by decide +kernel) rfl⟩
theorem ml_X5_40 : MLS RX5 40 mX5_isTerm 1 := ⟨m0_X5_isTerm, in_place 759 (by decide +kernel) rfl, Or.inl (in_place 758 (by decide +kernel) rfl)⟩
theorem ml_X5_44 : MLS RX5 44 mX5_termValue 3 := ⟨m0_X5_termValue, in_place 763 (by decide +kernel) rfl, Or.inl (in_place 762 (by decide +kernel) rfl)⟩
theorem ml_X5_48 : MLS RX5 48 mX5_join 3 := ⟨m0_X5_join, in_place 773 (by decide +kernel) rfl, Or.inl (in_place 772 (by decide +kernel) rfl)⟩
theorem ml_X5_61 : MLV RX5 61 mX2_hasTown 1 := ⟨m0_X2_hasTown, in_place 765 (by decide +kernel) rfl, in_place 498 (by decide +kernel) rfl, in_place 499 (by decide +kernel) rfl⟩
theorem ml_X5_79 : MLV RX5 79 mX9_measuresOfTheOldest 1 := ⟨m0_X9_measuresOfTheOldest, in_place 767 (by decide +kernel) rfl, in_place 768 (by decide +kernel) rfl, in_place 769 (by decide +kernel) rfl⟩
theorem ml_X5_83 : MLV RX5 83 mX9_roomLeft 0 := ⟨m0_X9_roomLeft, in_place 771 (by decide +kernel) rfl, in_place 518 (by decide +kernel) rfl, in_place 519 (by decide +kernel) rfl⟩
theorem ml_X6_58 : MLV RX6 58 mX6_gatherFeasts 3 := ⟨m0_X6_gatherFeasts, in_place 812 (by decide +kernel) rfl, in_place 814 (by decide +kernel) rfl, in_place 16 (by decide +kernel) rfl⟩
theorem ml_X6_62 : MLV RX6 62 mX6_gatherPiles 2 := ⟨m0_X6_gatherPiles, in_place 816 (by decide +kernel) rfl, in_place 818 (by decide +kernel) rfl, in_place 17 (by decide +kernel) rfl⟩
theorem ml_X6_66 : MLV RX6 66 mX6_findDays 1 := ⟨m0_X6_findDays, in_place 824 (by decide +kernel) rfl, in_place 826 (by decide +kernel) rfl, in_place 19 (by decide +kernel) rfl⟩
theorem ml_X6_71 : MLV RX6 71 mX6_cheapestFeast 0 := ⟨m0_X6_cheapestFeast, in_place 833 (by decide +kernel) rfl, in_place 835 (by decide +kernel) rfl, in_place 20 (by decide +kernel) rfl⟩
theorem ml_X6_75 : MLV RX6 75 mX6_giveAlong 1 := ⟨m0_X6_giveAlong, in_place 847 (by decide +kernel) rfl, in_place 849 (by decide +kernel) rfl, in_place 23 (by decide +kernel) rfl⟩
theorem ml_X6_122 : MLV RX6 122 mX6_feastsServedAt 1 := ⟨m0_X6_feastsServedAt, in_place 820 (by decide +kernel) rfl, in_place 822 (by decide +kernel) rfl, in_place 18 (by decide +kernel) rfl⟩
theorem ml_X6_131 : MLS RX6 131 mX6_pair 2 := ⟨m0_X6_pair, in_place 830 (by decide +kernel) rfl, Or.inl (in_place 829 (by decide +kernel) rfl)⟩
theorem ml_X6_136 : MLS RX6 136 mJ7_fill_53178 2 := ⟨m0_J7_fill_53178, in_place 140 (by decide +kernel) rfl, Or.inl (in_place 838 (by decide +kernel) rfl)⟩
theorem ml_X6_142 : MLV RX6 142 mX6_goForth 0 := ⟨m0_X6_goForth, in_place 839 (by decide +kernel) rfl, in_place 841 (by decide +kernel) rfl, in_place 21 (by decide +kernel) rfl⟩
theorem ml_X6_146 : MLV RX6 146 mX6_goBack 0 := ⟨m0_X6_goBack, in_place 843 (by decide +kernel) rfl, in_place 845 (by decide +kernel) rfl, in_place 22 (by decide +kernel) rfl⟩
theorem ml_X6_149 : MLV RX6 149 mX6_measuresAlong 1 := ⟨m0_X6_measuresAlong, in_place 851 (by decide +kernel) rfl, in_place 853 (by decide +kernel) rfl, in_place 24 (by decide +kernel) rfl⟩
theorem ml_X8_27 : MLS RX8 27 mX8_isLetter 1 := ⟨m0_X8_isLetter, in_place 565 (by decide +kernel) rfl, Or.inl (in_place 564 (by decide +kernel) rfl)⟩
theorem ml_X8_31 : MLV RX8 31 mX8_addName 3 := ⟨m0_X8_addName, in_place 568 (by decide +kernel) rfl, in_place 570 (by decide +kernel) rfl, in_place 1 (by decide +kernel) rfl⟩
theorem ml_X8_35 : MLS RX8 35 mX8_isDigit 1 := ⟨m0_X8_isDigit, in_place 576 (by decide +kernel) rfl, Or.inl (in_place 575 (by decide +kernel) rfl)⟩
theorem ml_X8_38 : MLV RX8 38 mX8_addNumber 3 := ⟨m0_X8_addNumber, in_place 654 (by decide +kernel) rfl, in_place 656 (by decide +kernel) rfl, in_place 3 (by decide +kernel) rfl⟩
theorem ml_X8_41 : MLS RX8 41 mX8_isSign 1 := ⟨m0_X8_isSign, in_place 659 (by decide +kernel) rfl, Or.inl (in_place 658 (by decide +kernel) rfl)⟩
theorem ml_X8_44 : MLV RX8 44 mX8_add 3 := ⟨m0_X8_add, in_place 578 (by decide +kernel) rfl, in_place 580 (by decide +kernel) rfl, in_place 2 (by decide +kernel) rfl⟩
theorem ml_X8_48 : MLS RX8 48 mX8_isTownName 3 := ⟨m0_X8_isTownName, in_place 573 (by decide +kernel) rfl, Or.inl (in_place 572 (by decide +kernel) rfl)⟩
theorem ml_X8_52 : MLS RX8 52 mX8_kindOf 3 := ⟨m0_X8_kindOf, in_place 583 (by decide +kernel) rfl, Or.inl (in_place 582 (by decide +kernel) rfl)⟩
theorem ml_X8_55 : MLS RX8 55 mX8_wordOf 3 := ⟨m0_X8_wordOf, in_place 640 (by decide +kernel) rfl, Or.inl (in_place 639 (by decide +kernel) rfl)⟩
theorem ml_X8_64 : MLS RX8 64 mX8_spells 4 := ⟨m0_X8_spells, in_place 587 (by decide +kernel) rfl, Or.inl (in_place 586 (by decide +kernel) rfl)⟩
theorem ml_X8_96 : MLV RX8 96 mJ0_length_8abf5 0 := ⟨m0_J0_length_8abf5, in_place 589 (by decide +kernel) rfl, in_place 590 (by decide +kernel) rfl, in_place 591 (by decide +kernel) rfl⟩
theorem ml_X8_102 : MLV RX8 102 mJ0_charAt_5068e 1 := ⟨m0_J0_charAt_5068e, in_place 599 (by decide +kernel) rfl, in_place 600 (by decide +kernel) rfl, in_place 601 (by decide +kernel) rfl⟩
theorem ml_X9_24 : MLV RX9 24 mX9_roomLeft 0 := ⟨m0_X9_roomLeft, in_place 517 (by decide +kernel) rfl, in_place 518 (by decide +kernel) rfl, in_place 519 (by decide +kernel) rfl⟩
theorem ml_X9_34 : MLV RX9 34 mX9_removeOfAge 3 := ⟨m0_X9_removeOfAge, in_place 532 (by decide +kernel) rfl, in_place 533 (by decide +kernel) rfl, in_place 534 (by decide +kernel) rfl⟩
theorem ml_L_13 : MLV RL 13 mX10_town 3 := ⟨m0_X10_town, in_place 481 (by decide +kernel) rfl, in_place 482 (by decide +kernel) rfl, in_place 483 (by decide +kernel) rfl⟩
theorem ml_L_17 : MLV RL 17 mX11_town 3 := ⟨m0_X11_town, in_place 1142 (by decide +kernel) rfl, in_place 1143 (by decide +kernel) rfl, in_place 1144 (by decide +kernel) rfl⟩
theorem ml_L_18 : MLV RL 18 mX10_way 3 := ⟨m0_X10_way, in_place 493 (by decide +kernel) rfl, in_place 494 (by decide +kernel) rfl, in_place 495 (by decide +kernel) rfl⟩
theorem ml_L_22 : MLV RL 22 mX11_way 3 := ⟨m0_X11_way, in_place 1147 (by decide +kernel) rfl, in_place 1148 (by decide +kernel) rfl, in_place 1149 (by decide +kernel) rfl⟩
theorem ml_L_23 : MLV RL 23 mX10_keeps 2 := ⟨m0_X10_keeps, in_place 502 (by decide +kernel) rfl, in_place 503 (by decide +kernel) rfl, in_place 504 (by decide +kernel) rfl⟩
theorem ml_L_27 : MLV RL 27 mX11_keeps 2 := ⟨m0_X11_keeps, in_place 1155 (by decide +kernel) rfl, in_place 1156 (by decide +kernel) rfl, in_place 1157 (by decide +kernel) rfl⟩
theorem ml_L_28 : MLV RL 28 mX10_put 4 := ⟨m0_X10_put, in_place 509 (by decide +kernel) rfl, in_place 510 (by decide +kernel) rfl, in_place 511 (by decide +kernel) rfl⟩
theorem ml_L_32 : MLV RL 32 mX11_put 4 := ⟨m0_X11_put, in_place 1162 (by decide +kernel) rfl, in_place 1163 (by decide +kernel) rfl, in_place 1164 (by decide +kernel) rfl⟩
theorem ml_L_33 : MLV RL 33 mX10_take 3 := ⟨m0_X10_take, in_place 524 (by decide +kernel) rfl, in_place 525 (by decide +kernel) rfl, in_place 526 (by decide +kernel) rfl⟩
theorem ml_L_36 : MLV RL 36 mX11_take 3 := ⟨m0_X11_take, in_place 1184 (by decide +kernel) rfl, in_place 1185 (by decide +kernel) rfl, in_place 1186 (by decide +kernel) rfl⟩
theorem ml_L_37 : MLV RL 37 mX10_stock 3 := ⟨m0_X10_stock, in_place 536 (by decide +kernel) rfl, in_place 537 (by decide +kernel) rfl, in_place 538 (by decide +kernel) rfl⟩
theorem ml_L_40 : MLV RL 40 mX11_stock 3 := ⟨m0_X11_stock, in_place 1192 (by decide +kernel) rfl, in_place 1193 (by decide +kernel) rfl, in_place 1194 (by decide +kernel) rfl⟩
theorem ml_L_41 : MLV RL 41 mX10_feed 5 := ⟨m0_X10_feed, in_place 540 (by decide +kernel) rfl, in_place 541 (by decide +kernel) rfl, in_place 542 (by decide +kernel) rfl⟩
theorem ml_L_45 : MLV RL 45 mX11_feed 5 := ⟨m0_X11_feed, in_place 1426 (by decide +kernel) rfl, in_place 1427 (by decide +kernel) rfl, in_place 1428 (by decide +kernel) rfl⟩
theorem ml_L_46 : MLV RL 46 mX10_end 1 := ⟨m0_X10_end, in_place 548 (by decide +kernel) rfl, in_place 549 (by decide +kernel) rfl, in_place 550 (by decide +kernel) rfl⟩
theorem ml_L_50 : MLV RL 50 mX11_end 1 := ⟨m0_X11_end, in_place 1430 (by decide +kernel) rfl, in_place 1431 (by decide +kernel) rfl, in_place 1432 (by decide +kernel) rfl⟩
theorem ml_L_51 : MLV RL 51 mX10_orders 0 := ⟨m0_X10_orders, in_place 552 (by decide +kernel) rfl, in_place 553 (by decide +kernel) rfl, in_place 554 (by decide +kernel) rfl⟩
theorem ml_L_55 : MLV RL 55 mX11_orders 0 := ⟨m0_X11_orders, in_place 1200 (by decide +kernel) rfl, in_place 1201 (by decide +kernel) rfl, in_place 1202 (by decide +kernel) rfl⟩
theorem ml_L_56 : MLV RL 56 mX10_fault 1 := ⟨m0_X10_fault, in_place 712 (by decide +kernel) rfl, in_place 713 (by decide +kernel) rfl, in_place 714 (by decide +kernel) rfl⟩
theorem ml_L_59 : MLV RL 59 mX11_fault 1 := ⟨m0_X11_fault, in_place 1301 (by decide +kernel) rfl, in_place 1302 (by decide +kernel) rfl, in_place 1303 (by decide +kernel) rfl⟩
theorem ml_L_60 : MLV RL 60 mX10_months 1 := ⟨m0_X10_months, in_place 716 (by decide +kernel) rfl, in_place 717 (by decide +kernel) rfl, in_place 718 (by decide +kernel) rfl⟩
theorem ml_L_63 : MLV RL 63 mX11_months 1 := ⟨m0_X11_months, in_place 1305 (by decide +kernel) rfl, in_place 1306 (by decide +kernel) rfl, in_place 1307 (by decide +kernel) rfl⟩
theorem ml_L_64 : MLV RL 64 mX10_sum 1 := ⟨m0_X10_sum, in_place 784 (by decide +kernel) rfl, in_place 785 (by decide +kernel) rfl, in_place 786 (by decide +kernel) rfl⟩
theorem ml_L_67 : MLV RL 67 mX11_sum 1 := ⟨m0_X11_sum, in_place 1343 (by decide +kernel) rfl, in_place 1344 (by decide +kernel) rfl, in_place 1345 (by decide +kernel) rfl⟩
theorem ml_L_68 : MLV RL 68 mX10_feast 4 := ⟨m0_X10_feast, in_place 792 (by decide +kernel) rfl, in_place 793 (by decide +kernel) rfl, in_place 794 (by decide +kernel) rfl⟩
theorem ml_L_71 : MLV RL 71 mX11_feast 4 := ⟨m0_X11_feast, in_place 1347 (by decide +kernel) rfl, in_place 1348 (by decide +kernel) rfl, in_place 1349 (by decide +kernel) rfl⟩
theorem ml_L_72 : MLV RL 72 mX10_cancel 0 := ⟨m0_X10_cancel, in_place 800 (by decide +kernel) rfl, in_place 801 (by decide +kernel) rfl, in_place 802 (by decide +kernel) rfl⟩
theorem ml_L_76 : MLV RL 76 mX11_cancel 0 := ⟨m0_X11_cancel, in_place 1351 (by decide +kernel) rfl, in_place 1352 (by decide +kernel) rfl, in_place 1353 (by decide +kernel) rfl⟩
theorem ml_L_77 : MLV RL 77 mX10_fed 0 := ⟨m0_X10_fed, in_place 804 (by decide +kernel) rfl, in_place 805 (by decide +kernel) rfl, in_place 806 (by decide +kernel) rfl⟩
theorem ml_L_80 : MLV RL 80 mX11_fed 0 := ⟨m0_X11_fed, in_place 1355 (by decide +kernel) rfl, in_place 1356 (by decide +kernel) rfl, in_place 1357 (by decide +kernel) rfl⟩
theorem ml_L_81 : MLV RL 81 mX10_carried 0 := ⟨m0_X10_carried, in_place 856 (by decide +kernel) rfl, in_place 857 (by decide +kernel) rfl, in_place 858 (by decide +kernel) rfl⟩
theorem ml_L_84 : MLV RL 84 mX11_carried 0 := ⟨m0_X11_carried, in_place 1384 (by decide +kernel) rfl, in_place 1385 (by decide +kernel) rfl, in_place 1386 (by decide +kernel) rfl⟩
theorem ml_L_85 : MLV RL 85 mX10_call 1 := ⟨m0_X10_call, in_place 860 (by decide +kernel) rfl, in_place 861 (by decide +kernel) rfl, in_place 862 (by decide +kernel) rfl⟩
theorem ml_L_88 : MLV RL 88 mX11_call 1 := ⟨m0_X11_call, in_place 1388 (by decide +kernel) rfl, in_place 1389 (by decide +kernel) rfl, in_place 1390 (by decide +kernel) rfl⟩
theorem ml_L_89 : MLV RL 89 mX10_gave 1 := ⟨m0_X10_gave, in_place 872 (by decide +kernel) rfl, in_place 873 (by decide +kernel) rfl, in_place 874 (by decide +kernel) rfl⟩
theorem ml_L_92 : MLV RL 92 mX11_gave 1 := ⟨m0_X11_gave, in_place 1396 (by decide +kernel) rfl, in_place 1397 (by decide +kernel) rfl, in_place 1398 (by decide +kernel) rfl⟩
theorem ml_L_93 : MLV RL 93 mX10_tell 5 := ⟨m0_X10_tell, in_place 876 (by decide +kernel) rfl, in_place 877 (by decide +kernel) rfl, in_place 878 (by decide +kernel) rfl⟩
theorem ml_L_96 : MLV RL 96 mX11_tell 5 := ⟨m0_X11_tell, in_place 1400 (by decide +kernel) rfl, in_place 1401 (by decide +kernel) rfl, in_place 1402 (by decide +kernel) rfl⟩
theorem ml_L_97 : MLV RL 97 mX10_untell 1 := ⟨m0_X10_untell, in_place 886 (by decide +kernel) rfl, in_place 887 (by decide +kernel) rfl, in_place 888 (by decide +kernel) rfl⟩
theorem ml_L_101 : MLV RL 101 mX11_untell 1 := ⟨m0_X11_untell, in_place 1405 (by decide +kernel) rfl, in_place 1406 (by decide +kernel) rfl, in_place 1407 (by decide +kernel) rfl⟩
theorem ml_L_102 : MLV RL 102 mX10_count 4 := ⟨m0_X10_count, in_place 895 (by decide +kernel) rfl, in_place 896 (by decide +kernel) rfl, in_place 897 (by decide +kernel) rfl⟩
theorem ml_L_105 : MLV RL 105 mX11_count 4 := ⟨m0_X11_count, in_place 1409 (by decide +kernel) rfl, in_place 1410 (by decide +kernel) rfl, in_place 1411 (by decide +kernel) rfl⟩
theorem ml_L_106 : MLV RL 106 mX10_agree 4 := ⟨m0_X10_agree, in_place 912 (by decide +kernel) rfl, in_place 913 (by decide +kernel) rfl, in_place 914 (by decide +kernel) rfl⟩
theorem ml_L_109 : MLV RL 109 mX11_agree 4 := ⟨m0_X11_agree, in_place 1413 (by decide +kernel) rfl, in_place 1414 (by decide +kernel) rfl, in_place 1415 (by decide +kernel) rfl⟩
theorem ml_L_110 : MLV RL 110 mX10_of 2 := ⟨m0_X10_of, in_place 916 (by decide +kernel) rfl, in_place 917 (by decide +kernel) rfl, in_place 918 (by decide +kernel) rfl⟩
theorem ml_L_114 : MLV RL 114 mX11_of 2 := ⟨m0_X11_of, in_place 1418 (by decide +kernel) rfl, in_place 1419 (by decide +kernel) rfl, in_place 1420 (by decide +kernel) rfl⟩
theorem ml_L_115 : MLV RL 115 mX10_about 1 := ⟨m0_X10_about, in_place 921 (by decide +kernel) rfl, in_place 922 (by decide +kernel) rfl, in_place 923 (by decide +kernel) rfl⟩
theorem ml_L_118 : MLV RL 118 mX11_about 1 := ⟨m0_X11_about, in_place 1422 (by decide +kernel) rfl, in_place 1423 (by decide +kernel) rfl, in_place 1424 (by decide +kernel) rfl⟩
theorem ml_X11_157 : MLV RX11 157 mX11_isTown 1 := ⟨m0_X11_isTown, in_place 1151 (by decide +kernel) rfl, in_place 1153 (by decide +kernel) rfl, in_place 27 (by decide +kernel) rfl⟩
theorem ml_X11_161 : MLS RX11 161 mX11_isKind 1 := ⟨m0_X11_isKind, in_place 1160 (by decide +kernel) rfl, Or.inl (in_place 1159 (by decide +kernel) rfl)⟩
theorem ml_X11_164 : MLS RX11 164 mX11_lot 3 := ⟨m0_X11_lot, in_place 1182 (by decide +kernel) rfl, Or.inl (in_place 1181 (by decide +kernel) rfl)⟩
theorem ml_X11_168 : MLV RX11 168 mX11_inStore 1 := ⟨m0_X11_inStore, in_place 1177 (by decide +kernel) rfl, in_place 1179 (by decide +kernel) rfl, in_place 30 (by decide +kernel) rfl⟩
theorem ml_X11_172 : MLV RX11 172 mX11_space 1 := ⟨m0_X11_space, in_place 1173 (by decide +kernel) rfl, in_place 1175 (by decide +kernel) rfl, in_place 29 (by decide +kernel) rfl⟩
theorem ml_X11_175 : MLS RX11 175 mX11_areMeasures 1 := ⟨m0_X11_areMeasures, in_place 1167 (by decide +kernel) rfl, Or.inl (in_place 1166 (by decide +kernel) rfl)⟩
theorem ml_X11_178 : MLV RX11 178 mX11_comeIn 4 := ⟨m0_X11_comeIn, in_place 1169 (by decide +kernel) rfl, in_place 1171 (by decide +kernel) rfl, in_place 28 (by decide +kernel) rfl⟩
theorem ml_X11_182 : MLV RX11 182 mX11_goOut 3 := ⟨m0_X11_goOut, in_place 1188 (by decide +kernel) rfl, in_place 1190 (by decide +kernel) rfl, in_place 31 (by decide +kernel) rfl⟩
theorem ml_X11_185 : MLV RX11 185 mX11_stockOf 2 := ⟨m0_X11_stockOf, in_place 1196 (by decide +kernel) rfl, in_place 1198 (by decide +kernel) rfl, in_place 32 (by decide +kernel) rfl⟩
theorem ml_X11_201 : MLV RX11 201 mX11_sign 1 := ⟨m0_X11_sign, in_place 1208 (by decide +kernel) rfl, in_place 1210 (by decide +kernel) rfl, in_place 34 (by decide +kernel) rfl⟩
theorem ml_X11_207 : MLS RX11 207 mX11_isLetter 1 := ⟨m0_X11_isLetter, in_place 1213 (by decide +kernel) rfl, Or.inl (in_place 1212 (by decide +kernel) rfl)⟩
theorem ml_X11_210 : MLS RX11 210 mX11_isDigit 1 := ⟨m0_X11_isDigit, in_place 1216 (by decide +kernel) rfl, Or.inl (in_place 1215 (by decide +kernel) rfl)⟩
theorem ml_X11_220 : MLV RX11 220 mX11_fails 2 := ⟨m0_X11_fails, in_place 1236 (by decide +kernel) rfl, in_place 1238 (by decide +kernel) rfl, in_place 39 (by decide +kernel) rfl⟩
theorem ml_X11_224 : MLV RX11 224 mX11_isGood 0 := ⟨m0_X11_isGood, in_place 1218 (by decide +kernel) rfl, in_place 1220 (by decide +kernel) rfl, in_place 35 (by decide +kernel) rfl⟩
theorem ml_X11_228 : MLV RX11 228 mX11_next 0 := ⟨m0_X11_next, in_place 1204 (by decide +kernel) rfl, in_place 1206 (by decide +kernel) rfl, in_place 33 (by decide +kernel) rfl⟩
theorem ml_X11_231 : MLV RX11 231 mX11_wrong 0 := ⟨m0_X11_wrong, in_place 1232 (by decide +kernel) rfl, in_place 1234 (by decide +kernel) rfl, in_place 38 (by decide +kernel) rfl⟩
theorem ml_X11_236 : MLV RX11 236 mX11_isWord 1 := ⟨m0_X11_isWord, in_place 1227 (by decide +kernel) rfl, in_place 1229 (by decide +kernel) rfl, in_place 37 (by decide +kernel) rfl⟩
theorem ml_X11_244 : MLV RX11 244 mX11_kindHere 0 := ⟨m0_X11_kindHere, in_place 1282 (by decide +kernel) rfl, in_place 1284 (by decide +kernel) rfl, in_place 49 (by decide +kernel) rfl⟩
theorem ml_X11_248 : MLV RX11 248 mX11_must 1 := ⟨m0_X11_must, in_place 1274 (by decide +kernel) rfl, in_place 1276 (by decide +kernel) rfl, in_place 47 (by decide +kernel) rfl⟩
theorem ml_X11_267 : MLV RX11 267 mX11_readLine 0 := ⟨m0_X11_readLine, in_place 1222 (by decide +kernel) rfl, in_place 1224 (by decide +kernel) rfl, in_place 36 (by decide +kernel) rfl⟩
theorem ml_X11_274 : MLV RX11 274 mX11_e 0 := ⟨m0_X11_e, in_place 1240 (by decide +kernel) rfl, in_place 1242 (by decide +kernel) rfl, in_place 40 (by decide +kernel) rfl⟩
theorem ml_X11_277 : MLV RX11 277 mX11_aNumber 1 := ⟨m0_X11_aNumber, in_place 1270 (by decide +kernel) rfl, in_place 1272 (by decide +kernel) rfl, in_place 46 (by decide +kernel) rfl⟩
theorem ml_X11_280 : MLV RX11 280 mX11_aKind 0 := ⟨m0_X11_aKind, in_place 1278 (by decide +kernel) rfl, in_place 1280 (by decide +kernel) rfl, in_place 48 (by decide +kernel) rfl⟩
theorem ml_X11_287 : MLV RX11 287 mX11_is 1 := ⟨m0_X11_is, in_place 1252 (by decide +kernel) rfl, in_place 1254 (by decide +kernel) rfl, in_place 43 (by decide +kernel) rfl⟩
theorem ml_X11_296 : MLV RX11 296 mX11_pile 1 := ⟨m0_X11_pile, in_place 1244 (by decide +kernel) rfl, in_place 1246 (by decide +kernel) rfl, in_place 41 (by decide +kernel) rfl⟩
theorem ml_X11_300 : MLV RX11 300 mX11_one 0 := ⟨m0_X11_one, in_place 1248 (by decide +kernel) rfl, in_place 1250 (by decide +kernel) rfl, in_place 42 (by decide +kernel) rfl⟩
theorem ml_X11_303 : MLV RX11 303 mX11_behind 0 := ⟨m0_X11_behind, in_place 1293 (by decide +kernel) rfl, in_place 1295 (by decide +kernel) rfl, in_place 51 (by decide +kernel) rfl⟩
theorem ml_X11_308 : MLV RX11 308 mX11_readSum 0 := ⟨m0_X11_readSum, in_place 1257 (by decide +kernel) rfl, in_place 1259 (by decide +kernel) rfl, in_place 44 (by decide +kernel) rfl⟩
theorem ml_X11_311 : MLV RX11 311 mX11_step 3 := ⟨m0_X11_step, in_place 1289 (by decide +kernel) rfl, in_place 1291 (by decide +kernel) rfl, in_place 50 (by decide +kernel) rfl⟩
theorem ml_X11_315 : MLV RX11 315 mX11_term 0 := ⟨m0_X11_term, in_place 1261 (by decide +kernel) rfl, in_place 1263 (by decide +kernel) rfl, in_place 45 (by decide +kernel) rfl⟩
theorem ml_X11_335 : MLV RX11 335 mX11_oldOf 2 := ⟨m0_X11_oldOf, in_place 1329 (by decide +kernel) rfl, in_place 1331 (by decide +kernel) rfl, in_place 57 (by decide +kernel) rfl⟩
theorem ml_X11_338 : MLV RX11 338 mX11_leaf 3 := ⟨m0_X11_leaf, in_place 1325 (by decide +kernel) rfl, in_place 1327 (by decide +kernel) rfl, in_place 56 (by decide +kernel) rfl⟩
theorem ml_X11_341 : MLS RX11 341 mX11_two 3 := ⟨m0_X11_two, in_place 1334 (by decide +kernel) rfl, Or.inl (in_place 1333 (by decide +kernel) rfl)⟩
theorem ml_X11_347 : MLS RX11 347 mX11_monthsFor 1 := ⟨m0_X11_monthsFor, in_place 1341 (by decide +kernel) rfl, Or.inl (in_place 1340 (by decide +kernel) rfl)⟩
theorem ml_X11_350 : MLV RX11 350 mX11_arrive 0 := ⟨m0_X11_arrive, in_place 1309 (by decide +kernel) rfl, in_place 1311 (by decide +kernel) rfl, in_place 52 (by decide +kernel) rfl⟩
theorem ml_X11_353 : MLV RX11 353 mX11_age 0 := ⟨m0_X11_age, in_place 1313 (by decide +kernel) rfl, in_place 1315 (by decide +kernel) rfl, in_place 53 (by decide +kernel) rfl⟩
theorem ml_X11_356 : MLV RX11 356 mX11_eat 0 := ⟨m0_X11_eat, in_place 1317 (by decide +kernel) rfl, in_place 1319 (by decide +kernel) rfl, in_place 54 (by decide +kernel) rfl⟩
theorem ml_X11_359 : MLV RX11 359 mX11_holds 1 := ⟨m0_X11_holds, in_place 1321 (by decide +kernel) rfl, in_place 1323 (by decide +kernel) rfl, in_place 55 (by decide +kernel) rfl⟩
theorem ml_X11_362 : MLV RX11 362 mX11_send 1 := ⟨m0_X11_send, in_place 1336 (by decide +kernel) rfl, in_place 1338 (by decide +kernel) rfl, in_place 58 (by decide +kernel) rfl⟩
theorem ml_X11_374 : MLV RX11 374 mX11_giveMore 1 := ⟨m0_X11_giveMore, in_place 1363 (by decide +kernel) rfl, in_place 1365 (by decide +kernel) rfl, in_place 60 (by decide +kernel) rfl⟩
theorem ml_X11_378 : MLV RX11 378 mX11_nearer 1 := ⟨m0_X11_nearer, in_place 1372 (by decide +kernel) rfl, in_place 1374 (by decide +kernel) rfl, in_place 62 (by decide +kernel) rfl⟩
theorem ml_X11_381 : MLV RX11 381 mX11_canGo 2 := ⟨m0_X11_canGo, in_place 1376 (by decide +kernel) rfl, in_place 1378 (by decide +kernel) rfl, in_place 63 (by decide +kernel) rfl⟩
theorem ml_X11_385 : MLV RX11 385 mX11_daysOf 2 := ⟨m0_X11_daysOf, in_place 1380 (by decide +kernel) rfl, in_place 1382 (by decide +kernel) rfl, in_place 64 (by decide +kernel) rfl⟩
theorem ml_X11_388 : MLV RX11 388 mX11_measure 1 := ⟨m0_X11_measure, in_place 1367 (by decide +kernel) rfl, in_place 1369 (by decide +kernel) rfl, in_place 61 (by decide +kernel) rfl⟩
theorem ml_X11_391 : MLV RX11 391 mX11_feedAll 0 := ⟨m0_X11_feedAll, in_place 1359 (by decide +kernel) rfl, in_place 1361 (by decide +kernel) rfl, in_place 59 (by decide +kernel) rfl⟩
theorem ml_X11_397 : MLV RX11 397 mX11_lacks 2 := ⟨m0_X11_lacks, in_place 1392 (by decide +kernel) rfl, in_place 1394 (by decide +kernel) rfl, in_place 65 (by decide +kernel) rfl⟩
theorem ml_X11_407 : MLV RX11 407 mX11_count 4 := ⟨m0_X11_count, in_place 1417 (by decide +kernel) rfl, in_place 1410 (by decide +kernel) rfl, in_place 1411 (by decide +kernel) rfl⟩
theorem ml_J0_335 : MLV RJ0 335 mJ0_coder_7d493 0 := ⟨m0_J0_coder_7d493, in_place 593 (by decide +kernel) rfl, in_place 594 (by decide +kernel) rfl, in_place 595 (by decide +kernel) rfl⟩
theorem ml_J0_492 : MLV RJ0 492 mJ0_isLatin1_aae02 0 := ⟨m0_J0_isLatin1_aae02, in_place 603 (by decide +kernel) rfl, in_place 604 (by decide +kernel) rfl, in_place 605 (by decide +kernel) rfl⟩
theorem ml_J0_495 : MLS RJ0 495 mJ1_charAt_3b067 2 := ⟨m0_J1_charAt_3b067, in_place 608 (by decide +kernel) rfl, Or.inl (in_place 607 (by decide +kernel) rfl)⟩
theorem ml_J0_498 : MLS RJ0 498 mJ2_charAt_3b067 2 := ⟨m0_J2_charAt_3b067, in_place 619 (by decide +kernel) rfl, Or.inl (in_place 618 (by decide +kernel) rfl)⟩
theorem ml_J1_9 : MLS RJ1 9 mJ0_checkIndex_df160 2 := ⟨m0_J0_checkIndex_df160, in_place 611 (by decide +kernel) rfl, Or.inl (in_place 610 (by decide +kernel) rfl)⟩
theorem ml_J2_48 : MLS RJ2 48 mJ2_length_9d52b 1 := ⟨m0_J2_length_9d52b, in_place 625 (by decide +kernel) rfl, Or.inl (in_place 624 (by decide +kernel) rfl)⟩
theorem ml_J2_67 : MLS RJ2 67 mJ2_checkIndex_2214a 2 := ⟨m0_J2_checkIndex_2214a, in_place 622 (by decide +kernel) rfl, Or.inl (in_place 621 (by decide +kernel) rfl)⟩
theorem ml_J2_71 : MLS RJ2 71 mJ2_getChar_3b067 2 := ⟨m0_J2_getChar_3b067, in_place 629 (by decide +kernel) rfl, Or.inl (in_place 628 (by decide +kernel) rfl)⟩
theorem ml_J2_414 : MLS RJ2 414 mJ0_checkIndex_df160 2 := ⟨m0_J0_checkIndex_df160, in_place 611 (by decide +kernel) rfl, Or.inl (in_place 627 (by decide +kernel) rfl)⟩
theorem ml_X2_37 : MLS RX2 37 mX10_within 3 := ⟨m0_X10_within, in_place 487 (by decide +kernel) rfl, Or.inr ⟨"StoreRealm", List.mem_of_getElem? (i := 9) (by decide +kernel)⟩⟩
theorem ml_X3_40 : MLS RX3 40 mX10_within 3 := ⟨m0_X10_within, in_place 487 (by decide +kernel) rfl, Or.inr ⟨"StoreRealm", List.mem_of_getElem? (i := 15) (by decide +kernel)⟩⟩
theorem ml_X4_108 : MLS RX4 108 mX10_subject 2 := ⟨m0_X10_subject, in_place 702 (by decide +kernel) rfl, Or.inr ⟨"StoreRealm", List.mem_of_getElem? (i := 11) (by decide +kernel)⟩⟩
theorem ml_X5_52 : MLS RX5 52 mX10_within 3 := ⟨m0_X10_within, in_place 487 (by decide +kernel) rfl, Or.inr ⟨"StoreRealm", List.mem_of_getElem? (i := 12) (by decide +kernel)⟩⟩
theorem ml_X5_64 : MLS RX5 64 mX10_isKind 1 := ⟨m0_X10_isKind, in_place 507 (by decide +kernel) rfl, Or.inr ⟨"StoreRealm", List.mem_of_getElem? (i := 13) (by decide +kernel)⟩⟩
theorem ml_X6_128 : MLS RX6 128 mX10_monthsOnTheWay 1 := ⟨m0_X10_monthsOnTheWay, in_place 780 (by decide +kernel) rfl, Or.inr ⟨"StoreRealm", List.mem_of_getElem? (i := 14) (by decide +kernel)⟩⟩
theorem ml_X8_58 : MLS RX8 58 mX10_within 3 := ⟨m0_X10_within, in_place 487 (by decide +kernel) rfl, Or.inr ⟨"StoreRealm", List.mem_of_getElem? (i := 10) (by decide +kernel)⟩⟩
theorem cn_X10_62 : Cond.constant RX10 62 100000 ∈ WALL := in_place 485 (by decide +kernel) rfl
theorem cn_X10_175 : Cond.constant RX10 175 1000000 ∈ WALL := in_place 880 (by decide +kernel) rfl
theorem cn_X6_70 : Cond.constant RX6 70 100000 ∈ WALL := in_place 832 (by decide +kernel) rfl
theorem cn_X6_135 : Cond.constant RX6 135 1000000 ∈ WALL := in_place 837 (by decide +kernel) rfl
theorem cn_X11_156 : Cond.constant RX11 156 100000 ∈ WALL := in_place 1146 (by decide +kernel) rfl
theorem cn_X11_377 : Cond.constant RX11 377 100000000 ∈ WALL := in_place 1371 (by decide +kernel) rfl
theorem cn_X11_400 : Cond.constant RX11 400 1000000 ∈ WALL := in_place 1404 (by decide +kernel) rfl
theorem cn_X11_234 : Cond.constantLong RX11 234 469785737829 ∈ WALL := in_place 1286 (by decide +kernel) rfl
theorem cn_X11_240 : Cond.constantLong RX11 240 427021005928 ∈ WALL := in_place 1287 (by decide +kernel) rfl
theorem cn_X11_242 : Cond.constantLong RX11 242 1835360628 ∈ WALL := in_place 1288 (by decide +kernel) rfl
theorem cn_X11_270 : Cond.constantLong RX11 270 2003330414 ∈ WALL := in_place 1226 (by decide +kernel) rfl
theorem cn_X11_272 : Cond.constantLong RX11 272 1836021349 ∈ WALL := in_place 1231 (by decide +kernel) rfl
theorem cn_X11_283 : Cond.constantLong RX11 283 1718775661 ∈ WALL := in_place 1299 (by decide +kernel) rfl
theorem cn_X11_285 : Cond.constantLong RX11 285 29807 ∈ WALL := in_place 1300 (by decide +kernel) rfl
theorem cn_X11_306 : Cond.constantLong RX11 306 7237492 ∈ WALL := in_place 1256 (by decide +kernel) rfl
theorem cn_X11_318 : Cond.constantLong RX11 318 495874696043 ∈ WALL := in_place 1265 (by decide +kernel) rfl
theorem cn_X11_320 : Cond.constantLong RX11 320 7302244 ∈ WALL := in_place 1266 (by decide +kernel) rfl
theorem cn_X11_322 : Cond.constantLong RX11 322 123580963646565 ∈ WALL := in_place 1267 (by decide +kernel) rfl
theorem cn_X11_324 : Cond.constantLong RX11 324 1919905645 ∈ WALL := in_place 1268 (by decide +kernel) rfl
theorem cn_X11_326 : Cond.constantLong RX11 326 470020945000 ∈ WALL := in_place 1269 (by decide +kernel) rfl
theorem cn_X11_328 : Cond.constantLong RX11 328 6385252 ∈ WALL := in_place 1297 (by decide +kernel) rfl
theorem cn_X11_330 : Cond.constantLong RX11 330 28530 ∈ WALL := in_place 1298 (by decide +kernel) rfl
end
section
theorem dX0_init_0 : decode cX0_init 0 = .ok (.aload_n 0, 1) := by decide +kernel
theorem dX0_init_1 : decode cX0_init 1 = .ok (.invokespecial 3, 3) := by decide +kernel
theorem dX0_init_4 : decode cX0_init 4 = .ok (.aload_n 0, 1) := by decide +kernel
theorem dX0_init_5 : decode cX0_init 5 = .ok (.bipush 60, 2) := by decide +kernel
theorem dX0_init_7 : decode cX0_init 7 = .ok (.newarray .int, 2) := by decide +kernel
theorem dX0_init_9 : decode cX0_init 9 = .ok (.putfield 9, 3) := by decide +kernel
theorem dX0_init_12 : decode cX0_init 12 = .ok (.aload_n 0, 1) := by decide +kernel
theorem dX0_init_13 : decode cX0_init 13 = .ok (.bipush 60, 2) := by decide +kernel
theorem dX0_init_15 : decode cX0_init 15 = .ok (.newarray .int, 2) := by decide +kernel
theorem dX0_init_17 : decode cX0_init 17 = .ok (.putfield 15, 3) := by decide +kernel
theorem dX0_init_20 : decode cX0_init 20 = .ok (.aload_n 0, 1) := by decide +kernel
theorem dX0_init_21 : decode cX0_init 21 = .ok (.bipush 60, 2) := by decide +kernel
theorem dX0_init_23 : decode cX0_init 23 = .ok (.newarray .int, 2) := by decide +kernel
theorem dX0_init_25 : decode cX0_init 25 = .ok (.putfield 18, 3) := by decide +kernel
theorem dX0_init_28 : decode cX0_init 28 = .ok (.aload_n 0, 1) := by decide +kernel
theorem dX0_init_29 : decode cX0_init 29 = .ok (.bipush 60, 2) := by decide +kernel
theorem dX0_init_31 : decode cX0_init 31 = .ok (.newarray .int, 2) := by decide +kernel
theorem dX0_init_33 : decode cX0_init 33 = .ok (.putfield 21, 3) := by decide +kernel
theorem dX0_init_36 : decode cX0_init 36 = .ok (.aload_n 0, 1) := by decide +kernel
theorem dX0_init_37 : decode cX0_init 37 = .ok (.bipush 60, 2) := by decide +kernel
theorem dX0_init_39 : decode cX0_init 39 = .ok (.newarray .int, 2) := by decide +kernel
theorem dX0_init_41 : decode cX0_init 41 = .ok (.putfield 24, 3) := by decide +kernel
theorem dX0_init_44 : decode cX0_init 44 = .ok (.return_, 1) := by decide +kernel
theorem dX0_send_0 : decode cX0_send 0 = .ok (.aload_n 0, 1) := by decide +kernel
theorem dX0_send_1 : decode cX0_send 1 = .ok (.getfield 27, 3) := by decide +kernel
theorem dX0_send_4 : decode cX0_send 4 = .ok (.bipush 60, 2) := by decide +kernel
theorem dX0_send_6 : decode cX0_send 6 = .ok (.if_icmp .lt 4, 3) := by decide +kernel
theorem dX0_send_9 : decode cX0_send 9 = .ok (.return_, 1) := by decide +kernel
theorem dX0_send_10 : decode cX0_send 10 = .ok (.aload_n 0, 1) := by decide +kernel
theorem dX0_send_11 : decode cX0_send 11 = .ok (.getfield 9, 3) := by decide +kernel
theorem dX0_send_14 : decode cX0_send 14 = .ok (.aload_n 0, 1) := by decide +kernel
theorem dX0_send_15 : decode cX0_send 15 = .ok (.getfield 27, 3) := by decide +kernel
theorem dX0_send_18 : decode cX0_send 18 = .ok (.iload_n 1, 1) := by decide +kernel
theorem dX0_send_19 : decode cX0_send 19 = .ok (.iastore, 1) := by decide +kernel
theorem dX0_send_20 : decode cX0_send 20 = .ok (.aload_n 0, 1) := by decide +kernel
theorem dX0_send_21 : decode cX0_send 21 = .ok (.getfield 15, 3) := by decide +kernel
theorem dX0_send_24 : decode cX0_send 24 = .ok (.aload_n 0, 1) := by decide +kernel
theorem dX0_send_25 : decode cX0_send 25 = .ok (.getfield 27, 3) := by decide +kernel
theorem dX0_send_28 : decode cX0_send 28 = .ok (.iload_n 2, 1) := by decide +kernel
theorem dX0_send_29 : decode cX0_send 29 = .ok (.iastore, 1) := by decide +kernel
theorem dX0_send_30 : decode cX0_send 30 = .ok (.aload_n 0, 1) := by decide +kernel
theorem dX0_send_31 : decode cX0_send 31 = .ok (.getfield 18, 3) := by decide +kernel
theorem dX0_send_34 : decode cX0_send 34 = .ok (.aload_n 0, 1) := by decide +kernel
theorem dX0_send_35 : decode cX0_send 35 = .ok (.getfield 27, 3) := by decide +kernel
theorem dX0_send_38 : decode cX0_send 38 = .ok (.iload_n 3, 1) := by decide +kernel
theorem dX0_send_39 : decode cX0_send 39 = .ok (.iastore, 1) := by decide +kernel
theorem dX0_send_40 : decode cX0_send 40 = .ok (.aload_n 0, 1) := by decide +kernel
theorem dX0_send_41 : decode cX0_send 41 = .ok (.getfield 21, 3) := by decide +kernel
theorem dX0_send_44 : decode cX0_send 44 = .ok (.aload_n 0, 1) := by decide +kernel
theorem dX0_send_45 : decode cX0_send 45 = .ok (.getfield 27, 3) := by decide +kernel
theorem dX0_send_48 : decode cX0_send 48 = .ok (.iload 4, 2) := by decide +kernel
theorem dX0_send_50 : decode cX0_send 50 = .ok (.iastore, 1) := by decide +kernel
theorem dX0_send_51 : decode cX0_send 51 = .ok (.aload_n 0, 1) := by decide +kernel
theorem dX0_send_52 : decode cX0_send 52 = .ok (.getfield 24, 3) := by decide +kernel
theorem dX0_send_55 : decode cX0_send 55 = .ok (.aload_n 0, 1) := by decide +kernel
theorem dX0_send_56 : decode cX0_send 56 = .ok (.getfield 27, 3) := by decide +kernel
theorem dX0_send_59 : decode cX0_send 59 = .ok (.iload 5, 2) := by decide +kernel
theorem dX0_send_61 : decode cX0_send 61 = .ok (.iastore, 1) := by decide +kernel
theorem dX0_send_62 : decode cX0_send 62 = .ok (.aload_n 0, 1) := by decide +kernel
theorem dX0_send_63 : decode cX0_send 63 = .ok (.dup, 1) := by decide +kernel
theorem dX0_send_64 : decode cX0_send 64 = .ok (.getfield 27, 3) := by decide +kernel
theorem dX0_send_67 : decode cX0_send 67 = .ok (.iconst 1, 1) := by decide +kernel
theorem dX0_send_68 : decode cX0_send 68 = .ok (.iadd, 1) := by decide +kernel
theorem dX0_send_69 : decode cX0_send 69 = .ok (.putfield 27, 3) := by decide +kernel
theorem dX0_send_72 : decode cX0_send 72 = .ok (.return_, 1) := by decide +kernel
theorem dX0_allMeasures_0 : decode cX0_allMeasures 0 = .ok (.iconst 0, 1) := by decide +kernel
theorem dX0_allMeasures_1 : decode cX0_allMeasures 1 = .ok (.istore_n 1, 1) := by decide +kernel
theorem dX0_allMeasures_2 : decode cX0_allMeasures 2 = .ok (.iconst 0, 1) := by decide +kernel
theorem dX0_allMeasures_3 : decode cX0_allMeasures 3 = .ok (.istore_n 2, 1) := by decide +kernel
theorem dX0_allMeasures_4 : decode cX0_allMeasures 4 = .ok (.iload_n 2, 1) := by decide +kernel
theorem dX0_allMeasures_5 : decode cX0_allMeasures 5 = .ok (.aload_n 0, 1) := by decide +kernel
theorem dX0_allMeasures_6 : decode cX0_allMeasures 6 = .ok (.getfield 27, 3) := by decide +kernel
theorem dX0_allMeasures_9 : decode cX0_allMeasures 9 = .ok (.if_icmp .ge 18, 3) := by decide +kernel
theorem dX0_allMeasures_12 : decode cX0_allMeasures 12 = .ok (.iload_n 1, 1) := by decide +kernel
theorem dX0_allMeasures_13 : decode cX0_allMeasures 13 = .ok (.aload_n 0, 1) := by decide +kernel
theorem dX0_allMeasures_14 : decode cX0_allMeasures 14 = .ok (.getfield 21, 3) := by decide +kernel
theorem dX0_allMeasures_17 : decode cX0_allMeasures 17 = .ok (.iload_n 2, 1) := by decide +kernel
theorem dX0_allMeasures_18 : decode cX0_allMeasures 18 = .ok (.iaload, 1) := by decide +kernel
theorem dX0_allMeasures_19 : decode cX0_allMeasures 19 = .ok (.iadd, 1) := by decide +kernel
theorem dX0_allMeasures_20 : decode cX0_allMeasures 20 = .ok (.istore_n 1, 1) := by decide +kernel
theorem dX0_allMeasures_21 : decode cX0_allMeasures 21 = .ok (.iinc 2 1, 3) := by decide +kernel
theorem dX0_allMeasures_24 : decode cX0_allMeasures 24 = .ok (.goto (-20), 3) := by decide +kernel
theorem dX0_allMeasures_27 : decode cX0_allMeasures 27 = .ok (.iload_n 1, 1) := by decide +kernel
theorem dX0_allMeasures_28 : decode cX0_allMeasures 28 = .ok (.ireturn, 1) := by decide +kernel
theorem dX0_grow_0 : decode cX0_grow 0 = .ok (.iconst 0, 1) := by decide +kernel
theorem dX0_grow_1 : decode cX0_grow 1 = .ok (.istore_n 1, 1) := by decide +kernel
theorem dX0_grow_2 : decode cX0_grow 2 = .ok (.iload_n 1, 1) := by decide +kernel
theorem dX0_grow_3 : decode cX0_grow 3 = .ok (.aload_n 0, 1) := by decide +kernel
theorem dX0_grow_4 : decode cX0_grow 4 = .ok (.getfield 27, 3) := by decide +kernel
theorem dX0_grow_7 : decode cX0_grow 7 = .ok (.if_icmp .ge 19, 3) := by decide +kernel
theorem dX0_grow_10 : decode cX0_grow 10 = .ok (.aload_n 0, 1) := by decide +kernel
theorem dX0_grow_11 : decode cX0_grow 11 = .ok (.getfield 18, 3) := by decide +kernel
theorem dX0_grow_14 : decode cX0_grow 14 = .ok (.iload_n 1, 1) := by decide +kernel
theorem dX0_grow_15 : decode cX0_grow 15 = .ok (.dup2, 1) := by decide +kernel
theorem dX0_grow_16 : decode cX0_grow 16 = .ok (.iaload, 1) := by decide +kernel
theorem dX0_grow_17 : decode cX0_grow 17 = .ok (.iconst 1, 1) := by decide +kernel
theorem dX0_grow_18 : decode cX0_grow 18 = .ok (.iadd, 1) := by decide +kernel
theorem dX0_grow_19 : decode cX0_grow 19 = .ok (.iastore, 1) := by decide +kernel
theorem dX0_grow_20 : decode cX0_grow 20 = .ok (.iinc 1 1, 3) := by decide +kernel
theorem dX0_grow_23 : decode cX0_grow 23 = .ok (.goto (-21), 3) := by decide +kernel
theorem dX0_grow_26 : decode cX0_grow 26 = .ok (.return_, 1) := by decide +kernel
theorem dX0_arrive_0 : decode cX0_arrive 0 = .ok (.aload_n 0, 1) := by decide +kernel
theorem dX0_arrive_1 : decode cX0_arrive 1 = .ok (.getfield 27, 3) := by decide +kernel
theorem dX0_arrive_4 : decode cX0_arrive 4 = .ok (.istore_n 3, 1) := by decide +kernel
theorem dX0_arrive_5 : decode cX0_arrive 5 = .ok (.aload_n 0, 1) := by decide +kernel
theorem dX0_arrive_6 : decode cX0_arrive 6 = .ok (.iconst 0, 1) := by decide +kernel
theorem dX0_arrive_7 : decode cX0_arrive 7 = .ok (.putfield 27, 3) := by decide +kernel
theorem dX0_arrive_10 : decode cX0_arrive 10 = .ok (.iconst 0, 1) := by decide +kernel
theorem dX0_arrive_11 : decode cX0_arrive 11 = .ok (.istore 4, 2) := by decide +kernel
theorem dX0_arrive_13 : decode cX0_arrive 13 = .ok (.iload 4, 2) := by decide +kernel
theorem dX0_arrive_15 : decode cX0_arrive 15 = .ok (.iload_n 3, 1) := by decide +kernel
theorem dX0_arrive_16 : decode cX0_arrive 16 = .ok (.if_icmp .ge 73, 3) := by decide +kernel
theorem dX0_arrive_19 : decode cX0_arrive 19 = .ok (.aload_n 0, 1) := by decide +kernel
theorem dX0_arrive_20 : decode cX0_arrive 20 = .ok (.getfield 24, 3) := by decide +kernel
theorem dX0_arrive_23 : decode cX0_arrive 23 = .ok (.iload 4, 2) := by decide +kernel
theorem dX0_arrive_25 : decode cX0_arrive 25 = .ok (.iaload, 1) := by decide +kernel
theorem dX0_arrive_26 : decode cX0_arrive 26 = .ok (.aload_n 1, 1) := by decide +kernel
theorem dX0_arrive_27 : decode cX0_arrive 27 = .ok (.getfield 31, 3) := by decide +kernel
theorem dX0_arrive_30 : decode cX0_arrive 30 = .ok (.if_icmp .gt 14, 3) := by decide +kernel
theorem dX0_arrive_33 : decode cX0_arrive 33 = .ok (.aload_n 0, 1) := by decide +kernel
theorem dX0_arrive_34 : decode cX0_arrive 34 = .ok (.iload 4, 2) := by decide +kernel
theorem dX0_arrive_36 : decode cX0_arrive 36 = .ok (.aload_n 1, 1) := by decide +kernel
theorem dX0_arrive_37 : decode cX0_arrive 37 = .ok (.aload_n 2, 1) := by decide +kernel
theorem dX0_arrive_38 : decode cX0_arrive 38 = .ok (.invokevirtual 36, 3) := by decide +kernel
theorem dX0_arrive_41 : decode cX0_arrive 41 = .ok (.goto 42, 3) := by decide +kernel
theorem dX0_arrive_44 : decode cX0_arrive 44 = .ok (.aload_n 0, 1) := by decide +kernel
theorem dX0_arrive_45 : decode cX0_arrive 45 = .ok (.aload_n 0, 1) := by decide +kernel
theorem dX0_arrive_46 : decode cX0_arrive 46 = .ok (.getfield 9, 3) := by decide +kernel
theorem dX0_arrive_49 : decode cX0_arrive 49 = .ok (.iload 4, 2) := by decide +kernel
theorem dX0_arrive_51 : decode cX0_arrive 51 = .ok (.iaload, 1) := by decide +kernel
theorem dX0_arrive_52 : decode cX0_arrive 52 = .ok (.aload_n 0, 1) := by decide +kernel
theorem dX0_arrive_53 : decode cX0_arrive 53 = .ok (.getfield 15, 3) := by decide +kernel
theorem dX0_arrive_56 : decode cX0_arrive 56 = .ok (.iload 4, 2) := by decide +kernel
theorem dX0_arrive_58 : decode cX0_arrive 58 = .ok (.iaload, 1) := by decide +kernel
theorem dX0_arrive_59 : decode cX0_arrive 59 = .ok (.aload_n 0, 1) := by decide +kernel
theorem dX0_arrive_60 : decode cX0_arrive 60 = .ok (.getfield 18, 3) := by decide +kernel
theorem dX0_arrive_63 : decode cX0_arrive 63 = .ok (.iload 4, 2) := by decide +kernel
theorem dX0_arrive_65 : decode cX0_arrive 65 = .ok (.iaload, 1) := by decide +kernel
theorem dX0_arrive_66 : decode cX0_arrive 66 = .ok (.aload_n 0, 1) := by decide +kernel
theorem dX0_arrive_67 : decode cX0_arrive 67 = .ok (.getfield 21, 3) := by decide +kernel
theorem dX0_arrive_70 : decode cX0_arrive 70 = .ok (.iload 4, 2) := by decide +kernel
theorem dX0_arrive_72 : decode cX0_arrive 72 = .ok (.iaload, 1) := by decide +kernel
theorem dX0_arrive_73 : decode cX0_arrive 73 = .ok (.aload_n 0, 1) := by decide +kernel
theorem dX0_arrive_74 : decode cX0_arrive 74 = .ok (.getfield 24, 3) := by decide +kernel
theorem dX0_arrive_77 : decode cX0_arrive 77 = .ok (.iload 4, 2) := by decide +kernel
theorem dX0_arrive_79 : decode cX0_arrive 79 = .ok (.iaload, 1) := by decide +kernel
theorem dX0_arrive_80 : decode cX0_arrive 80 = .ok (.invokevirtual 40, 3) := by decide +kernel
theorem dX0_arrive_83 : decode cX0_arrive 83 = .ok (.iinc 4 1, 3) := by decide +kernel
theorem dX0_arrive_86 : decode cX0_arrive 86 = .ok (.goto (-73), 3) := by decide +kernel
theorem dX0_arrive_89 : decode cX0_arrive 89 = .ok (.return_, 1) := by decide +kernel
theorem dX0_unload_0 : decode cX0_unload 0 = .ok (.aload_n 0, 1) := by decide +kernel
theorem dX0_unload_1 : decode cX0_unload 1 = .ok (.getfield 21, 3) := by decide +kernel
theorem dX0_unload_4 : decode cX0_unload 4 = .ok (.iload_n 1, 1) := by decide +kernel
theorem dX0_unload_5 : decode cX0_unload 5 = .ok (.iaload, 1) := by decide +kernel
theorem dX0_unload_6 : decode cX0_unload 6 = .ok (.istore 4, 2) := by decide +kernel
theorem dX0_unload_8 : decode cX0_unload 8 = .ok (.aload_n 3, 1) := by decide +kernel
theorem dX0_unload_9 : decode cX0_unload 9 = .ok (.dup, 1) := by decide +kernel
theorem dX0_unload_10 : decode cX0_unload 10 = .ok (.getfield 44, 3) := by decide +kernel
theorem dX0_unload_13 : decode cX0_unload 13 = .ok (.iload 4, 2) := by decide +kernel
theorem dX0_unload_15 : decode cX0_unload 15 = .ok (.iadd, 1) := by decide +kernel
theorem dX0_unload_16 : decode cX0_unload 16 = .ok (.putfield 44, 3) := by decide +kernel
theorem dX0_unload_19 : decode cX0_unload 19 = .ok (.aload_n 0, 1) := by decide +kernel
theorem dX0_unload_20 : decode cX0_unload 20 = .ok (.getfield 18, 3) := by decide +kernel
theorem dX0_unload_23 : decode cX0_unload 23 = .ok (.iload_n 1, 1) := by decide +kernel
theorem dX0_unload_24 : decode cX0_unload 24 = .ok (.iaload, 1) := by decide +kernel
theorem dX0_unload_25 : decode cX0_unload 25 = .ok (.aload_n 2, 1) := by decide +kernel
theorem dX0_unload_26 : decode cX0_unload 26 = .ok (.getfield 49, 3) := by decide +kernel
theorem dX0_unload_29 : decode cX0_unload 29 = .ok (.aload_n 0, 1) := by decide +kernel
theorem dX0_unload_30 : decode cX0_unload 30 = .ok (.getfield 15, 3) := by decide +kernel
theorem dX0_unload_33 : decode cX0_unload 33 = .ok (.iload_n 1, 1) := by decide +kernel
theorem dX0_unload_34 : decode cX0_unload 34 = .ok (.iaload, 1) := by decide +kernel
theorem dX0_unload_35 : decode cX0_unload 35 = .ok (.iaload, 1) := by decide +kernel
theorem dX0_unload_36 : decode cX0_unload 36 = .ok (.if_icmp .le 15, 3) := by decide +kernel
theorem dX0_unload_39 : decode cX0_unload 39 = .ok (.aload_n 3, 1) := by decide +kernel
theorem dX0_unload_40 : decode cX0_unload 40 = .ok (.dup, 1) := by decide +kernel
theorem dX0_unload_41 : decode cX0_unload 41 = .ok (.getfield 52, 3) := by decide +kernel
theorem dX0_unload_44 : decode cX0_unload 44 = .ok (.iload 4, 2) := by decide +kernel
theorem dX0_unload_46 : decode cX0_unload 46 = .ok (.iadd, 1) := by decide +kernel
theorem dX0_unload_47 : decode cX0_unload 47 = .ok (.putfield 52, 3) := by decide +kernel
theorem dX0_unload_50 : decode cX0_unload 50 = .ok (.return_, 1) := by decide +kernel
theorem dX0_unload_51 : decode cX0_unload 51 = .ok (.aload_n 2, 1) := by decide +kernel
theorem dX0_unload_52 : decode cX0_unload 52 = .ok (.getfield 55, 3) := by decide +kernel
theorem dX0_unload_55 : decode cX0_unload 55 = .ok (.aload_n 0, 1) := by decide +kernel
theorem dX0_unload_56 : decode cX0_unload 56 = .ok (.getfield 9, 3) := by decide +kernel
theorem dX0_unload_59 : decode cX0_unload 59 = .ok (.iload_n 1, 1) := by decide +kernel
theorem dX0_unload_60 : decode cX0_unload 60 = .ok (.iaload, 1) := by decide +kernel
theorem dX0_unload_61 : decode cX0_unload 61 = .ok (.aaload, 1) := by decide +kernel
theorem dX0_unload_62 : decode cX0_unload 62 = .ok (.aload_n 0, 1) := by decide +kernel
theorem dX0_unload_63 : decode cX0_unload 63 = .ok (.getfield 15, 3) := by decide +kernel
theorem dX0_unload_66 : decode cX0_unload 66 = .ok (.iload_n 1, 1) := by decide +kernel
theorem dX0_unload_67 : decode cX0_unload 67 = .ok (.iaload, 1) := by decide +kernel
theorem dX0_unload_68 : decode cX0_unload 68 = .ok (.aload_n 0, 1) := by decide +kernel
theorem dX0_unload_69 : decode cX0_unload 69 = .ok (.getfield 18, 3) := by decide +kernel
theorem dX0_unload_72 : decode cX0_unload 72 = .ok (.iload_n 1, 1) := by decide +kernel
theorem dX0_unload_73 : decode cX0_unload 73 = .ok (.iaload, 1) := by decide +kernel
theorem dX0_unload_74 : decode cX0_unload 74 = .ok (.iload 4, 2) := by decide +kernel
theorem dX0_unload_76 : decode cX0_unload 76 = .ok (.invokevirtual 59, 3) := by decide +kernel
theorem dX0_unload_79 : decode cX0_unload 79 = .ok (.istore 5, 2) := by decide +kernel
theorem dX0_unload_81 : decode cX0_unload 81 = .ok (.aload_n 3, 1) := by decide +kernel
theorem dX0_unload_82 : decode cX0_unload 82 = .ok (.dup, 1) := by decide +kernel
theorem dX0_unload_83 : decode cX0_unload 83 = .ok (.getfield 65, 3) := by decide +kernel
theorem dX0_unload_86 : decode cX0_unload 86 = .ok (.iload 4, 2) := by decide +kernel
theorem dX0_unload_88 : decode cX0_unload 88 = .ok (.iload 5, 2) := by decide +kernel
theorem dX0_unload_90 : decode cX0_unload 90 = .ok (.isub, 1) := by decide +kernel
theorem dX0_unload_91 : decode cX0_unload 91 = .ok (.iadd, 1) := by decide +kernel
theorem dX0_unload_92 : decode cX0_unload 92 = .ok (.putfield 65, 3) := by decide +kernel
theorem dX0_unload_95 : decode cX0_unload 95 = .ok (.return_, 1) := by decide +kernel
theorem dX1_init_0 : decode cX1_init 0 = .ok (.aload_n 0, 1) := by decide +kernel
theorem dX1_init_1 : decode cX1_init 1 = .ok (.invokespecial 3, 3) := by decide +kernel
theorem dX1_init_4 : decode cX1_init 4 = .ok (.aload_n 0, 1) := by decide +kernel
theorem dX1_init_5 : decode cX1_init 5 = .ok (.bipush 10, 2) := by decide +kernel
theorem dX1_init_7 : decode cX1_init 7 = .ok (.newarray .int, 2) := by decide +kernel
theorem dX1_init_9 : decode cX1_init 9 = .ok (.putfield 9, 3) := by decide +kernel
theorem dX1_init_12 : decode cX1_init 12 = .ok (.aload_n 0, 1) := by decide +kernel
theorem dX1_init_13 : decode cX1_init 13 = .ok (.bipush 10, 2) := by decide +kernel
theorem dX1_init_15 : decode cX1_init 15 = .ok (.newarray .int, 2) := by decide +kernel
theorem dX1_init_17 : decode cX1_init 17 = .ok (.putfield 15, 3) := by decide +kernel
theorem dX1_init_20 : decode cX1_init 20 = .ok (.aload_n 0, 1) := by decide +kernel
theorem dX1_init_21 : decode cX1_init 21 = .ok (.bipush 10, 2) := by decide +kernel
theorem dX1_init_23 : decode cX1_init 23 = .ok (.newarray .int, 2) := by decide +kernel
theorem dX1_init_25 : decode cX1_init 25 = .ok (.putfield 18, 3) := by decide +kernel
theorem dX1_init_28 : decode cX1_init 28 = .ok (.aload_n 0, 1) := by decide +kernel
theorem dX1_init_29 : decode cX1_init 29 = .ok (.bipush 10, 2) := by decide +kernel
theorem dX1_init_31 : decode cX1_init 31 = .ok (.newarray .int, 2) := by decide +kernel
theorem dX1_init_33 : decode cX1_init 33 = .ok (.putfield 21, 3) := by decide +kernel
theorem dX1_init_36 : decode cX1_init 36 = .ok (.return_, 1) := by decide +kernel
theorem dX1_add_0 : decode cX1_add 0 = .ok (.aload_n 0, 1) := by decide +kernel
theorem dX1_add_1 : decode cX1_add 1 = .ok (.getfield 24, 3) := by decide +kernel
theorem dX1_add_4 : decode cX1_add 4 = .ok (.bipush 10, 2) := by decide +kernel
theorem dX1_add_6 : decode cX1_add 6 = .ok (.if_icmp .lt 5, 3) := by decide +kernel
theorem dX1_add_9 : decode cX1_add 9 = .ok (.iconst (-1), 1) := by decide +kernel
theorem dX1_add_10 : decode cX1_add 10 = .ok (.ireturn, 1) := by decide +kernel
theorem dX1_add_11 : decode cX1_add 11 = .ok (.aload_n 0, 1) := by decide +kernel
theorem dX1_add_12 : decode cX1_add 12 = .ok (.getfield 9, 3) := by decide +kernel
theorem dX1_add_15 : decode cX1_add 15 = .ok (.aload_n 0, 1) := by decide +kernel
theorem dX1_add_16 : decode cX1_add 16 = .ok (.getfield 24, 3) := by decide +kernel
theorem dX1_add_19 : decode cX1_add 19 = .ok (.iload_n 1, 1) := by decide +kernel
theorem dX1_add_20 : decode cX1_add 20 = .ok (.iastore, 1) := by decide +kernel
theorem dX1_add_21 : decode cX1_add 21 = .ok (.aload_n 0, 1) := by decide +kernel
theorem dX1_add_22 : decode cX1_add 22 = .ok (.getfield 15, 3) := by decide +kernel
theorem dX1_add_25 : decode cX1_add 25 = .ok (.aload_n 0, 1) := by decide +kernel
theorem dX1_add_26 : decode cX1_add 26 = .ok (.getfield 24, 3) := by decide +kernel
theorem dX1_add_29 : decode cX1_add 29 = .ok (.iload_n 2, 1) := by decide +kernel
theorem dX1_add_30 : decode cX1_add 30 = .ok (.iastore, 1) := by decide +kernel
theorem dX1_add_31 : decode cX1_add 31 = .ok (.aload_n 0, 1) := by decide +kernel
theorem dX1_add_32 : decode cX1_add 32 = .ok (.getfield 18, 3) := by decide +kernel
theorem dX1_add_35 : decode cX1_add 35 = .ok (.aload_n 0, 1) := by decide +kernel
theorem dX1_add_36 : decode cX1_add 36 = .ok (.getfield 24, 3) := by decide +kernel
theorem dX1_add_39 : decode cX1_add 39 = .ok (.iload_n 3, 1) := by decide +kernel
theorem dX1_add_40 : decode cX1_add 40 = .ok (.iastore, 1) := by decide +kernel
theorem dX1_add_41 : decode cX1_add 41 = .ok (.aload_n 0, 1) := by decide +kernel
theorem dX1_add_42 : decode cX1_add 42 = .ok (.getfield 21, 3) := by decide +kernel
theorem dX1_add_45 : decode cX1_add 45 = .ok (.aload_n 0, 1) := by decide +kernel
theorem dX1_add_46 : decode cX1_add 46 = .ok (.getfield 24, 3) := by decide +kernel
theorem dX1_add_49 : decode cX1_add 49 = .ok (.iload 4, 2) := by decide +kernel
theorem dX1_add_51 : decode cX1_add 51 = .ok (.iastore, 1) := by decide +kernel
theorem dX1_add_52 : decode cX1_add 52 = .ok (.aload_n 0, 1) := by decide +kernel
theorem dX1_add_53 : decode cX1_add 53 = .ok (.dup, 1) := by decide +kernel
theorem dX1_add_54 : decode cX1_add 54 = .ok (.getfield 24, 3) := by decide +kernel
theorem dX1_add_57 : decode cX1_add 57 = .ok (.iconst 1, 1) := by decide +kernel
theorem dX1_add_58 : decode cX1_add 58 = .ok (.iadd, 1) := by decide +kernel
theorem dX1_add_59 : decode cX1_add 59 = .ok (.putfield 24, 3) := by decide +kernel
theorem dX1_add_62 : decode cX1_add 62 = .ok (.aload_n 0, 1) := by decide +kernel
theorem dX1_add_63 : decode cX1_add 63 = .ok (.getfield 24, 3) := by decide +kernel
theorem dX1_add_66 : decode cX1_add 66 = .ok (.iconst 1, 1) := by decide +kernel
theorem dX1_add_67 : decode cX1_add 67 = .ok (.isub, 1) := by decide +kernel
theorem dX1_add_68 : decode cX1_add 68 = .ok (.ireturn, 1) := by decide +kernel
theorem dX2_init_0 : decode cX2_init 0 = .ok (.aload_n 0, 1) := by decide +kernel
theorem dX2_init_1 : decode cX2_init 1 = .ok (.invokespecial 3, 3) := by decide +kernel
theorem dX2_init_4 : decode cX2_init 4 = .ok (.aload_n 0, 1) := by decide +kernel
theorem dX2_init_5 : decode cX2_init 5 = .ok (.bipush 8, 2) := by decide +kernel
theorem dX2_init_7 : decode cX2_init 7 = .ok (.anewarray 9, 3) := by decide +kernel
theorem dX2_init_10 : decode cX2_init 10 = .ok (.putfield 11, 3) := by decide +kernel
theorem dX2_init_13 : decode cX2_init 13 = .ok (.aload_n 0, 1) := by decide +kernel
theorem dX2_init_14 : decode cX2_init 14 = .ok (.bipush 8, 2) := by decide +kernel
theorem dX2_init_16 : decode cX2_init 16 = .ok (.bipush 8, 2) := by decide +kernel
theorem dX2_init_18 : decode cX2_init 18 = .ok (.multianewarray 17 2, 4) := by decide +kernel
theorem dX2_init_22 : decode cX2_init 22 = .ok (.putfield 19, 3) := by decide +kernel
theorem dX2_init_25 : decode cX2_init 25 = .ok (.aload_n 0, 1) := by decide +kernel
theorem dX2_init_26 : decode cX2_init 26 = .ok (.iconst 3, 1) := by decide +kernel
theorem dX2_init_27 : decode cX2_init 27 = .ok (.newarray .int, 2) := by decide +kernel
theorem dX2_init_29 : decode cX2_init 29 = .ok (.putfield 22, 3) := by decide +kernel
theorem dX2_init_32 : decode cX2_init 32 = .ok (.iconst 0, 1) := by decide +kernel
theorem dX2_init_33 : decode cX2_init 33 = .ok (.istore_n 1, 1) := by decide +kernel
theorem dX2_init_34 : decode cX2_init 34 = .ok (.iload_n 1, 1) := by decide +kernel
theorem dX2_init_35 : decode cX2_init 35 = .ok (.bipush 8, 2) := by decide +kernel
theorem dX2_init_37 : decode cX2_init 37 = .ok (.if_icmp .ge 41, 3) := by decide +kernel
theorem dX2_init_40 : decode cX2_init 40 = .ok (.aload_n 0, 1) := by decide +kernel
theorem dX2_init_41 : decode cX2_init 41 = .ok (.getfield 11, 3) := by decide +kernel
theorem dX2_init_44 : decode cX2_init 44 = .ok (.iload_n 1, 1) := by decide +kernel
theorem dX2_init_45 : decode cX2_init 45 = .ok (.new 9, 3) := by decide +kernel
theorem dX2_init_48 : decode cX2_init 48 = .ok (.dup, 1) := by decide +kernel
theorem dX2_init_49 : decode cX2_init 49 = .ok (.invokespecial 26, 3) := by decide +kernel
theorem dX2_init_52 : decode cX2_init 52 = .ok (.aastore, 1) := by decide +kernel
theorem dX2_init_53 : decode cX2_init 53 = .ok (.aload_n 0, 1) := by decide +kernel
theorem dX2_init_54 : decode cX2_init 54 = .ok (.getfield 19, 3) := by decide +kernel
theorem dX2_init_57 : decode cX2_init 57 = .ok (.iload_n 1, 1) := by decide +kernel
theorem dX2_init_58 : decode cX2_init 58 = .ok (.aaload, 1) := by decide +kernel
theorem dX2_init_59 : decode cX2_init 59 = .ok (.iconst (-1), 1) := by decide +kernel
theorem dX2_init_60 : decode cX2_init 60 = .ok (.invokestatic 27, 3) := by decide +kernel
theorem dX2_init_63 : decode cX2_init 63 = .ok (.aload_n 0, 1) := by decide +kernel
theorem dX2_init_64 : decode cX2_init 64 = .ok (.getfield 19, 3) := by decide +kernel
theorem dX2_init_67 : decode cX2_init 67 = .ok (.iload_n 1, 1) := by decide +kernel
theorem dX2_init_68 : decode cX2_init 68 = .ok (.aaload, 1) := by decide +kernel
theorem dX2_init_69 : decode cX2_init 69 = .ok (.iload_n 1, 1) := by decide +kernel
theorem dX2_init_70 : decode cX2_init 70 = .ok (.iconst 0, 1) := by decide +kernel
theorem dX2_init_71 : decode cX2_init 71 = .ok (.iastore, 1) := by decide +kernel
theorem dX2_init_72 : decode cX2_init 72 = .ok (.iinc 1 1, 3) := by decide +kernel
theorem dX2_init_75 : decode cX2_init 75 = .ok (.goto (-41), 3) := by decide +kernel
theorem dX2_init_78 : decode cX2_init 78 = .ok (.aload_n 0, 1) := by decide +kernel
theorem dX2_init_79 : decode cX2_init 79 = .ok (.getfield 22, 3) := by decide +kernel
theorem dX2_init_82 : decode cX2_init 82 = .ok (.iconst 0, 1) := by decide +kernel
theorem dX2_init_83 : decode cX2_init 83 = .ok (.bipush 12, 2) := by decide +kernel
theorem dX2_init_85 : decode cX2_init 85 = .ok (.iastore, 1) := by decide +kernel
theorem dX2_init_86 : decode cX2_init 86 = .ok (.aload_n 0, 1) := by decide +kernel
theorem dX2_init_87 : decode cX2_init 87 = .ok (.getfield 22, 3) := by decide +kernel
theorem dX2_init_90 : decode cX2_init 90 = .ok (.iconst 1, 1) := by decide +kernel
theorem dX2_init_91 : decode cX2_init 91 = .ok (.bipush 60, 2) := by decide +kernel
theorem dX2_init_93 : decode cX2_init 93 = .ok (.iastore, 1) := by decide +kernel
theorem dX2_init_94 : decode cX2_init 94 = .ok (.aload_n 0, 1) := by decide +kernel
theorem dX2_init_95 : decode cX2_init 95 = .ok (.getfield 22, 3) := by decide +kernel
theorem dX2_init_98 : decode cX2_init 98 = .ok (.iconst 2, 1) := by decide +kernel
theorem dX2_init_99 : decode cX2_init 99 = .ok (.bipush 24, 2) := by decide +kernel
theorem dX2_init_101 : decode cX2_init 101 = .ok (.iastore, 1) := by decide +kernel
theorem dX2_init_102 : decode cX2_init 102 = .ok (.return_, 1) := by decide +kernel
theorem dX2_hasTown_0 : decode cX2_hasTown 0 = .ok (.iload_n 1, 1) := by decide +kernel
theorem dX2_hasTown_1 : decode cX2_hasTown 1 = .ok (.iconst 0, 1) := by decide +kernel
theorem dX2_hasTown_2 : decode cX2_hasTown 2 = .ok (.aload_n 0, 1) := by decide +kernel
theorem dX2_hasTown_3 : decode cX2_hasTown 3 = .ok (.getfield 33, 3) := by decide +kernel
theorem dX2_hasTown_6 : decode cX2_hasTown 6 = .ok (.iconst 1, 1) := by decide +kernel
theorem dX2_hasTown_7 : decode cX2_hasTown 7 = .ok (.isub, 1) := by decide +kernel
theorem dX2_hasTown_8 : decode cX2_hasTown 8 = .ok (.invokestatic 37, 3) := by decide +kernel
theorem dX2_hasTown_11 : decode cX2_hasTown 11 = .ok (.ireturn, 1) := by decide +kernel
theorem dX2_found_0 : decode cX2_found 0 = .ok (.aload_n 0, 1) := by decide +kernel
theorem dX2_found_1 : decode cX2_found 1 = .ok (.getfield 33, 3) := by decide +kernel
theorem dX2_found_4 : decode cX2_found 4 = .ok (.bipush 8, 2) := by decide +kernel
theorem dX2_found_6 : decode cX2_found 6 = .ok (.if_icmp .lt 5, 3) := by decide +kernel
theorem dX2_found_9 : decode cX2_found 9 = .ok (.iconst (-1), 1) := by decide +kernel
theorem dX2_found_10 : decode cX2_found 10 = .ok (.ireturn, 1) := by decide +kernel
theorem dX2_found_11 : decode cX2_found 11 = .ok (.aload_n 0, 1) := by decide +kernel
theorem dX2_found_12 : decode cX2_found 12 = .ok (.getfield 11, 3) := by decide +kernel
theorem dX2_found_15 : decode cX2_found 15 = .ok (.aload_n 0, 1) := by decide +kernel
theorem dX2_found_16 : decode cX2_found 16 = .ok (.getfield 33, 3) := by decide +kernel
theorem dX2_found_19 : decode cX2_found 19 = .ok (.aaload, 1) := by decide +kernel
theorem dX2_found_20 : decode cX2_found 20 = .ok (.astore 4, 2) := by decide +kernel
theorem dX2_found_22 : decode cX2_found 22 = .ok (.aload 4, 2) := by decide +kernel
theorem dX2_found_24 : decode cX2_found 24 = .ok (.iload_n 1, 1) := by decide +kernel
theorem dX2_found_25 : decode cX2_found 25 = .ok (.putfield 41, 3) := by decide +kernel
theorem dX2_found_28 : decode cX2_found 28 = .ok (.aload 4, 2) := by decide +kernel
theorem dX2_found_30 : decode cX2_found 30 = .ok (.iload_n 2, 1) := by decide +kernel
theorem dX2_found_31 : decode cX2_found 31 = .ok (.putfield 44, 3) := by decide +kernel
theorem dX2_found_34 : decode cX2_found 34 = .ok (.aload 4, 2) := by decide +kernel
theorem dX2_found_36 : decode cX2_found 36 = .ok (.iload_n 3, 1) := by decide +kernel
theorem dX2_found_37 : decode cX2_found 37 = .ok (.putfield 47, 3) := by decide +kernel
theorem dX2_found_40 : decode cX2_found 40 = .ok (.aload_n 0, 1) := by decide +kernel
theorem dX2_found_41 : decode cX2_found 41 = .ok (.dup, 1) := by decide +kernel
theorem dX2_found_42 : decode cX2_found 42 = .ok (.getfield 33, 3) := by decide +kernel
theorem dX2_found_45 : decode cX2_found 45 = .ok (.iconst 1, 1) := by decide +kernel
theorem dX2_found_46 : decode cX2_found 46 = .ok (.iadd, 1) := by decide +kernel
theorem dX2_found_47 : decode cX2_found 47 = .ok (.putfield 33, 3) := by decide +kernel
theorem dX2_found_50 : decode cX2_found 50 = .ok (.aload_n 0, 1) := by decide +kernel
theorem dX2_found_51 : decode cX2_found 51 = .ok (.getfield 33, 3) := by decide +kernel
theorem dX2_found_54 : decode cX2_found 54 = .ok (.iconst 1, 1) := by decide +kernel
theorem dX2_found_55 : decode cX2_found 55 = .ok (.isub, 1) := by decide +kernel
theorem dX2_found_56 : decode cX2_found 56 = .ok (.ireturn, 1) := by decide +kernel
theorem dX2_growLots_0 : decode cX2_growLots 0 = .ok (.iconst 0, 1) := by decide +kernel
theorem dX2_growLots_1 : decode cX2_growLots 1 = .ok (.istore_n 2, 1) := by decide +kernel
theorem dX2_growLots_2 : decode cX2_growLots 2 = .ok (.iload_n 2, 1) := by decide +kernel
theorem dX2_growLots_3 : decode cX2_growLots 3 = .ok (.aload_n 0, 1) := by decide +kernel
theorem dX2_growLots_4 : decode cX2_growLots 4 = .ok (.getfield 33, 3) := by decide +kernel
theorem dX2_growLots_7 : decode cX2_growLots 7 = .ok (.if_icmp .ge 47, 3) := by decide +kernel
theorem dX2_growLots_10 : decode cX2_growLots 10 = .ok (.iconst 0, 1) := by decide +kernel
theorem dX2_growLots_11 : decode cX2_growLots 11 = .ok (.istore_n 3, 1) := by decide +kernel
theorem dX2_growLots_12 : decode cX2_growLots 12 = .ok (.iload_n 3, 1) := by decide +kernel
theorem dX2_growLots_13 : decode cX2_growLots 13 = .ok (.iconst 3, 1) := by decide +kernel
theorem dX2_growLots_14 : decode cX2_growLots 14 = .ok (.if_icmp .ge 34, 3) := by decide +kernel
theorem dX2_growLots_17 : decode cX2_growLots 17 = .ok (.aload_n 1, 1) := by decide +kernel
theorem dX2_growLots_18 : decode cX2_growLots 18 = .ok (.dup, 1) := by decide +kernel
theorem dX2_growLots_19 : decode cX2_growLots 19 = .ok (.getfield 50, 3) := by decide +kernel
theorem dX2_growLots_22 : decode cX2_growLots 22 = .ok (.aload_n 0, 1) := by decide +kernel
theorem dX2_growLots_23 : decode cX2_growLots 23 = .ok (.getfield 11, 3) := by decide +kernel
theorem dX2_growLots_26 : decode cX2_growLots 26 = .ok (.iload_n 2, 1) := by decide +kernel
theorem dX2_growLots_27 : decode cX2_growLots 27 = .ok (.aaload, 1) := by decide +kernel
theorem dX2_growLots_28 : decode cX2_growLots 28 = .ok (.iload_n 3, 1) := by decide +kernel
theorem dX2_growLots_29 : decode cX2_growLots 29 = .ok (.aload_n 0, 1) := by decide +kernel
theorem dX2_growLots_30 : decode cX2_growLots 30 = .ok (.getfield 22, 3) := by decide +kernel
theorem dX2_growLots_33 : decode cX2_growLots 33 = .ok (.iload_n 3, 1) := by decide +kernel
theorem dX2_growLots_34 : decode cX2_growLots 34 = .ok (.iaload, 1) := by decide +kernel
theorem dX2_growLots_35 : decode cX2_growLots 35 = .ok (.invokevirtual 55, 3) := by decide +kernel
theorem dX2_growLots_38 : decode cX2_growLots 38 = .ok (.iadd, 1) := by decide +kernel
theorem dX2_growLots_39 : decode cX2_growLots 39 = .ok (.putfield 50, 3) := by decide +kernel
theorem dX2_growLots_42 : decode cX2_growLots 42 = .ok (.iinc 3 1, 3) := by decide +kernel
theorem dX2_growLots_45 : decode cX2_growLots 45 = .ok (.goto (-33), 3) := by decide +kernel
theorem dX2_growLots_48 : decode cX2_growLots 48 = .ok (.iinc 2 1, 3) := by decide +kernel
theorem dX2_growLots_51 : decode cX2_growLots 51 = .ok (.goto (-49), 3) := by decide +kernel
theorem dX2_growLots_54 : decode cX2_growLots 54 = .ok (.return_, 1) := by decide +kernel
theorem dX2_eat_0 : decode cX2_eat 0 = .ok (.iconst 0, 1) := by decide +kernel
theorem dX2_eat_1 : decode cX2_eat 1 = .ok (.istore_n 2, 1) := by decide +kernel
theorem dX2_eat_2 : decode cX2_eat 2 = .ok (.iload_n 2, 1) := by decide +kernel
theorem dX2_eat_3 : decode cX2_eat 3 = .ok (.aload_n 0, 1) := by decide +kernel
theorem dX2_eat_4 : decode cX2_eat 4 = .ok (.getfield 33, 3) := by decide +kernel
theorem dX2_eat_7 : decode cX2_eat 7 = .ok (.if_icmp .ge 41, 3) := by decide +kernel
theorem dX2_eat_10 : decode cX2_eat 10 = .ok (.aload_n 0, 1) := by decide +kernel
theorem dX2_eat_11 : decode cX2_eat 11 = .ok (.getfield 11, 3) := by decide +kernel
theorem dX2_eat_14 : decode cX2_eat 14 = .ok (.iload_n 2, 1) := by decide +kernel
theorem dX2_eat_15 : decode cX2_eat 15 = .ok (.aaload, 1) := by decide +kernel
theorem dX2_eat_16 : decode cX2_eat 16 = .ok (.getfield 44, 3) := by decide +kernel
theorem dX2_eat_19 : decode cX2_eat 19 = .ok (.istore_n 3, 1) := by decide +kernel
theorem dX2_eat_20 : decode cX2_eat 20 = .ok (.aload_n 1, 1) := by decide +kernel
theorem dX2_eat_21 : decode cX2_eat 21 = .ok (.dup, 1) := by decide +kernel
theorem dX2_eat_22 : decode cX2_eat 22 = .ok (.getfield 59, 3) := by decide +kernel
theorem dX2_eat_25 : decode cX2_eat 25 = .ok (.iload_n 3, 1) := by decide +kernel
theorem dX2_eat_26 : decode cX2_eat 26 = .ok (.aload_n 0, 1) := by decide +kernel
theorem dX2_eat_27 : decode cX2_eat 27 = .ok (.getfield 11, 3) := by decide +kernel
theorem dX2_eat_30 : decode cX2_eat 30 = .ok (.iload_n 2, 1) := by decide +kernel
theorem dX2_eat_31 : decode cX2_eat 31 = .ok (.aaload, 1) := by decide +kernel
theorem dX2_eat_32 : decode cX2_eat 32 = .ok (.iconst 0, 1) := by decide +kernel
theorem dX2_eat_33 : decode cX2_eat 33 = .ok (.iload_n 3, 1) := by decide +kernel
theorem dX2_eat_34 : decode cX2_eat 34 = .ok (.invokevirtual 62, 3) := by decide +kernel
theorem dX2_eat_37 : decode cX2_eat 37 = .ok (.isub, 1) := by decide +kernel
theorem dX2_eat_38 : decode cX2_eat 38 = .ok (.iadd, 1) := by decide +kernel
theorem dX2_eat_39 : decode cX2_eat 39 = .ok (.putfield 59, 3) := by decide +kernel
theorem dX2_eat_42 : decode cX2_eat 42 = .ok (.iinc 2 1, 3) := by decide +kernel
theorem dX2_eat_45 : decode cX2_eat 45 = .ok (.goto (-43), 3) := by decide +kernel
theorem dX2_eat_48 : decode cX2_eat 48 = .ok (.return_, 1) := by decide +kernel
theorem dX2_allTens_0 : decode cX2_allTens 0 = .ok (.iconst 0, 1) := by decide +kernel
theorem dX2_allTens_1 : decode cX2_allTens 1 = .ok (.istore_n 1, 1) := by decide +kernel
theorem dX2_allTens_2 : decode cX2_allTens 2 = .ok (.iconst 0, 1) := by decide +kernel
theorem dX2_allTens_3 : decode cX2_allTens 3 = .ok (.istore_n 2, 1) := by decide +kernel
theorem dX2_allTens_4 : decode cX2_allTens 4 = .ok (.iload_n 2, 1) := by decide +kernel
theorem dX2_allTens_5 : decode cX2_allTens 5 = .ok (.aload_n 0, 1) := by decide +kernel
theorem dX2_allTens_6 : decode cX2_allTens 6 = .ok (.getfield 33, 3) := by decide +kernel
theorem dX2_allTens_9 : decode cX2_allTens 9 = .ok (.if_icmp .ge 21, 3) := by decide +kernel
theorem dX2_allTens_12 : decode cX2_allTens 12 = .ok (.iload_n 1, 1) := by decide +kernel
theorem dX2_allTens_13 : decode cX2_allTens 13 = .ok (.aload_n 0, 1) := by decide +kernel
theorem dX2_allTens_14 : decode cX2_allTens 14 = .ok (.getfield 11, 3) := by decide +kernel
theorem dX2_allTens_17 : decode cX2_allTens 17 = .ok (.iload_n 2, 1) := by decide +kernel
theorem dX2_allTens_18 : decode cX2_allTens 18 = .ok (.aaload, 1) := by decide +kernel
theorem dX2_allTens_19 : decode cX2_allTens 19 = .ok (.getfield 47, 3) := by decide +kernel
theorem dX2_allTens_22 : decode cX2_allTens 22 = .ok (.iadd, 1) := by decide +kernel
theorem dX2_allTens_23 : decode cX2_allTens 23 = .ok (.istore_n 1, 1) := by decide +kernel
theorem dX2_allTens_24 : decode cX2_allTens 24 = .ok (.iinc 2 1, 3) := by decide +kernel
theorem dX2_allTens_27 : decode cX2_allTens 27 = .ok (.goto (-23), 3) := by decide +kernel
theorem dX2_allTens_30 : decode cX2_allTens 30 = .ok (.iload_n 1, 1) := by decide +kernel
theorem dX2_allTens_31 : decode cX2_allTens 31 = .ok (.ireturn, 1) := by decide +kernel
theorem dX2_takeHand_0 : decode cX2_takeHand 0 = .ok (.aload_n 0, 1) := by decide +kernel
theorem dX2_takeHand_1 : decode cX2_takeHand 1 = .ok (.dup, 1) := by decide +kernel
theorem dX2_takeHand_2 : decode cX2_takeHand 2 = .ok (.getfield 65, 3) := by decide +kernel
theorem dX2_takeHand_5 : decode cX2_takeHand 5 = .ok (.iconst 1, 1) := by decide +kernel
theorem dX2_takeHand_6 : decode cX2_takeHand 6 = .ok (.iadd, 1) := by decide +kernel
end
section
theorem dX2_takeHand_7 : decode cX2_takeHand 7 = .ok (.putfield 65, 3) := by decide +kernel
theorem dX2_takeHand_10 : decode cX2_takeHand 10 = .ok (.iconst (-1), 1) := by decide +kernel
theorem dX2_takeHand_11 : decode cX2_takeHand 11 = .ok (.istore_n 2, 1) := by decide +kernel
theorem dX2_takeHand_12 : decode cX2_takeHand 12 = .ok (.iconst 0, 1) := by decide +kernel
theorem dX2_takeHand_13 : decode cX2_takeHand 13 = .ok (.istore_n 3, 1) := by decide +kernel
theorem dX2_takeHand_14 : decode cX2_takeHand 14 = .ok (.iconst 0, 1) := by decide +kernel
theorem dX2_takeHand_15 : decode cX2_takeHand 15 = .ok (.istore 4, 2) := by decide +kernel
theorem dX2_takeHand_17 : decode cX2_takeHand 17 = .ok (.iload 4, 2) := by decide +kernel
theorem dX2_takeHand_19 : decode cX2_takeHand 19 = .ok (.aload_n 0, 1) := by decide +kernel
theorem dX2_takeHand_20 : decode cX2_takeHand 20 = .ok (.getfield 33, 3) := by decide +kernel
theorem dX2_takeHand_23 : decode cX2_takeHand 23 = .ok (.if_icmp .ge 65, 3) := by decide +kernel
theorem dX2_takeHand_26 : decode cX2_takeHand 26 = .ok (.aload_n 0, 1) := by decide +kernel
theorem dX2_takeHand_27 : decode cX2_takeHand 27 = .ok (.getfield 11, 3) := by decide +kernel
theorem dX2_takeHand_30 : decode cX2_takeHand 30 = .ok (.iload 4, 2) := by decide +kernel
theorem dX2_takeHand_32 : decode cX2_takeHand 32 = .ok (.aaload, 1) := by decide +kernel
theorem dX2_takeHand_33 : decode cX2_takeHand 33 = .ok (.getfield 47, 3) := by decide +kernel
theorem dX2_takeHand_36 : decode cX2_takeHand 36 = .ok (.istore 5, 2) := by decide +kernel
theorem dX2_takeHand_38 : decode cX2_takeHand 38 = .ok (.iload 5, 2) := by decide +kernel
theorem dX2_takeHand_40 : decode cX2_takeHand 40 = .ok (.aload_n 0, 1) := by decide +kernel
theorem dX2_takeHand_41 : decode cX2_takeHand 41 = .ok (.getfield 65, 3) := by decide +kernel
theorem dX2_takeHand_44 : decode cX2_takeHand 44 = .ok (.imul, 1) := by decide +kernel
theorem dX2_takeHand_45 : decode cX2_takeHand 45 = .ok (.iload_n 1, 1) := by decide +kernel
theorem dX2_takeHand_46 : decode cX2_takeHand 46 = .ok (.aload_n 0, 1) := by decide +kernel
theorem dX2_takeHand_47 : decode cX2_takeHand 47 = .ok (.getfield 11, 3) := by decide +kernel
theorem dX2_takeHand_50 : decode cX2_takeHand 50 = .ok (.iload 4, 2) := by decide +kernel
theorem dX2_takeHand_52 : decode cX2_takeHand 52 = .ok (.aaload, 1) := by decide +kernel
theorem dX2_takeHand_53 : decode cX2_takeHand 53 = .ok (.getfield 68, 3) := by decide +kernel
theorem dX2_takeHand_56 : decode cX2_takeHand 56 = .ok (.imul, 1) := by decide +kernel
theorem dX2_takeHand_57 : decode cX2_takeHand 57 = .ok (.isub, 1) := by decide +kernel
theorem dX2_takeHand_58 : decode cX2_takeHand 58 = .ok (.istore 6, 2) := by decide +kernel
theorem dX2_takeHand_60 : decode cX2_takeHand 60 = .ok (.iload 5, 2) := by decide +kernel
theorem dX2_takeHand_62 : decode cX2_takeHand 62 = .ok (.ifCond .le 20, 3) := by decide +kernel
theorem dX2_takeHand_65 : decode cX2_takeHand 65 = .ok (.iload_n 2, 1) := by decide +kernel
theorem dX2_takeHand_66 : decode cX2_takeHand 66 = .ok (.iconst (-1), 1) := by decide +kernel
theorem dX2_takeHand_67 : decode cX2_takeHand 67 = .ok (.if_icmp .eq 9, 3) := by decide +kernel
theorem dX2_takeHand_70 : decode cX2_takeHand 70 = .ok (.iload 6, 2) := by decide +kernel
theorem dX2_takeHand_72 : decode cX2_takeHand 72 = .ok (.iload_n 3, 1) := by decide +kernel
theorem dX2_takeHand_73 : decode cX2_takeHand 73 = .ok (.if_icmp .le 9, 3) := by decide +kernel
theorem dX2_takeHand_76 : decode cX2_takeHand 76 = .ok (.iload 4, 2) := by decide +kernel
theorem dX2_takeHand_78 : decode cX2_takeHand 78 = .ok (.istore_n 2, 1) := by decide +kernel
theorem dX2_takeHand_79 : decode cX2_takeHand 79 = .ok (.iload 6, 2) := by decide +kernel
theorem dX2_takeHand_81 : decode cX2_takeHand 81 = .ok (.istore_n 3, 1) := by decide +kernel
theorem dX2_takeHand_82 : decode cX2_takeHand 82 = .ok (.iinc 4 1, 3) := by decide +kernel
theorem dX2_takeHand_85 : decode cX2_takeHand 85 = .ok (.goto (-68), 3) := by decide +kernel
theorem dX2_takeHand_88 : decode cX2_takeHand 88 = .ok (.iload_n 2, 1) := by decide +kernel
theorem dX2_takeHand_89 : decode cX2_takeHand 89 = .ok (.iconst (-1), 1) := by decide +kernel
theorem dX2_takeHand_90 : decode cX2_takeHand 90 = .ok (.if_icmp .eq 18, 3) := by decide +kernel
theorem dX2_takeHand_93 : decode cX2_takeHand 93 = .ok (.aload_n 0, 1) := by decide +kernel
theorem dX2_takeHand_94 : decode cX2_takeHand 94 = .ok (.getfield 11, 3) := by decide +kernel
theorem dX2_takeHand_97 : decode cX2_takeHand 97 = .ok (.iload_n 2, 1) := by decide +kernel
theorem dX2_takeHand_98 : decode cX2_takeHand 98 = .ok (.aaload, 1) := by decide +kernel
theorem dX2_takeHand_99 : decode cX2_takeHand 99 = .ok (.dup, 1) := by decide +kernel
theorem dX2_takeHand_100 : decode cX2_takeHand 100 = .ok (.getfield 68, 3) := by decide +kernel
theorem dX2_takeHand_103 : decode cX2_takeHand 103 = .ok (.iconst 1, 1) := by decide +kernel
theorem dX2_takeHand_104 : decode cX2_takeHand 104 = .ok (.iadd, 1) := by decide +kernel
theorem dX2_takeHand_105 : decode cX2_takeHand 105 = .ok (.putfield 68, 3) := by decide +kernel
theorem dX2_takeHand_108 : decode cX2_takeHand 108 = .ok (.return_, 1) := by decide +kernel
theorem dX3_init_0 : decode cX3_init 0 = .ok (.aload_n 0, 1) := by decide +kernel
theorem dX3_init_1 : decode cX3_init 1 = .ok (.invokespecial 3, 3) := by decide +kernel
theorem dX3_init_4 : decode cX3_init 4 = .ok (.aload_n 0, 1) := by decide +kernel
theorem dX3_init_5 : decode cX3_init 5 = .ok (.bipush 60, 2) := by decide +kernel
theorem dX3_init_7 : decode cX3_init 7 = .ok (.newarray .int, 2) := by decide +kernel
theorem dX3_init_9 : decode cX3_init 9 = .ok (.putfield 9, 3) := by decide +kernel
theorem dX3_init_12 : decode cX3_init 12 = .ok (.aload_n 0, 1) := by decide +kernel
theorem dX3_init_13 : decode cX3_init 13 = .ok (.bipush 60, 2) := by decide +kernel
theorem dX3_init_15 : decode cX3_init 15 = .ok (.newarray .int, 2) := by decide +kernel
theorem dX3_init_17 : decode cX3_init 17 = .ok (.putfield 15, 3) := by decide +kernel
theorem dX3_init_20 : decode cX3_init 20 = .ok (.aload_n 0, 1) := by decide +kernel
theorem dX3_init_21 : decode cX3_init 21 = .ok (.bipush 60, 2) := by decide +kernel
theorem dX3_init_23 : decode cX3_init 23 = .ok (.newarray .int, 2) := by decide +kernel
theorem dX3_init_25 : decode cX3_init 25 = .ok (.putfield 18, 3) := by decide +kernel
theorem dX3_init_28 : decode cX3_init 28 = .ok (.aload_n 0, 1) := by decide +kernel
theorem dX3_init_29 : decode cX3_init 29 = .ok (.bipush 60, 2) := by decide +kernel
theorem dX3_init_31 : decode cX3_init 31 = .ok (.newarray .int, 2) := by decide +kernel
theorem dX3_init_33 : decode cX3_init 33 = .ok (.putfield 21, 3) := by decide +kernel
theorem dX3_init_36 : decode cX3_init 36 = .ok (.aload_n 0, 1) := by decide +kernel
theorem dX3_init_37 : decode cX3_init 37 = .ok (.bipush 60, 2) := by decide +kernel
theorem dX3_init_39 : decode cX3_init 39 = .ok (.newarray .int, 2) := by decide +kernel
theorem dX3_init_41 : decode cX3_init 41 = .ok (.putfield 24, 3) := by decide +kernel
theorem dX3_init_44 : decode cX3_init 44 = .ok (.aload_n 0, 1) := by decide +kernel
theorem dX3_init_45 : decode cX3_init 45 = .ok (.bipush 60, 2) := by decide +kernel
theorem dX3_init_47 : decode cX3_init 47 = .ok (.newarray .int, 2) := by decide +kernel
theorem dX3_init_49 : decode cX3_init 49 = .ok (.putfield 27, 3) := by decide +kernel
theorem dX3_init_52 : decode cX3_init 52 = .ok (.aload_n 0, 1) := by decide +kernel
theorem dX3_init_53 : decode cX3_init 53 = .ok (.iconst 5, 1) := by decide +kernel
theorem dX3_init_54 : decode cX3_init 54 = .ok (.newarray .int, 2) := by decide +kernel
theorem dX3_init_56 : decode cX3_init 56 = .ok (.putfield 30, 3) := by decide +kernel
theorem dX3_init_59 : decode cX3_init 59 = .ok (.aload_n 0, 1) := by decide +kernel
theorem dX3_init_60 : decode cX3_init 60 = .ok (.iconst (-1), 1) := by decide +kernel
theorem dX3_init_61 : decode cX3_init 61 = .ok (.putfield 33, 3) := by decide +kernel
theorem dX3_init_64 : decode cX3_init 64 = .ok (.return_, 1) := by decide +kernel
theorem dX3_add_0 : decode cX3_add 0 = .ok (.aload_n 0, 1) := by decide +kernel
theorem dX3_add_1 : decode cX3_add 1 = .ok (.getfield 37, 3) := by decide +kernel
theorem dX3_add_4 : decode cX3_add 4 = .ok (.bipush 60, 2) := by decide +kernel
theorem dX3_add_6 : decode cX3_add 6 = .ok (.if_icmp .lt 5, 3) := by decide +kernel
theorem dX3_add_9 : decode cX3_add 9 = .ok (.iconst (-1), 1) := by decide +kernel
theorem dX3_add_10 : decode cX3_add 10 = .ok (.ireturn, 1) := by decide +kernel
theorem dX3_add_11 : decode cX3_add 11 = .ok (.aload_n 0, 1) := by decide +kernel
theorem dX3_add_12 : decode cX3_add 12 = .ok (.getfield 9, 3) := by decide +kernel
theorem dX3_add_15 : decode cX3_add 15 = .ok (.aload_n 0, 1) := by decide +kernel
theorem dX3_add_16 : decode cX3_add 16 = .ok (.getfield 37, 3) := by decide +kernel
theorem dX3_add_19 : decode cX3_add 19 = .ok (.iload_n 1, 1) := by decide +kernel
theorem dX3_add_20 : decode cX3_add 20 = .ok (.iastore, 1) := by decide +kernel
theorem dX3_add_21 : decode cX3_add 21 = .ok (.aload_n 0, 1) := by decide +kernel
theorem dX3_add_22 : decode cX3_add 22 = .ok (.getfield 15, 3) := by decide +kernel
theorem dX3_add_25 : decode cX3_add 25 = .ok (.aload_n 0, 1) := by decide +kernel
theorem dX3_add_26 : decode cX3_add 26 = .ok (.getfield 37, 3) := by decide +kernel
theorem dX3_add_29 : decode cX3_add 29 = .ok (.iload_n 2, 1) := by decide +kernel
theorem dX3_add_30 : decode cX3_add 30 = .ok (.iastore, 1) := by decide +kernel
theorem dX3_add_31 : decode cX3_add 31 = .ok (.aload_n 0, 1) := by decide +kernel
theorem dX3_add_32 : decode cX3_add 32 = .ok (.getfield 18, 3) := by decide +kernel
theorem dX3_add_35 : decode cX3_add 35 = .ok (.aload_n 0, 1) := by decide +kernel
theorem dX3_add_36 : decode cX3_add 36 = .ok (.getfield 37, 3) := by decide +kernel
theorem dX3_add_39 : decode cX3_add 39 = .ok (.iload_n 3, 1) := by decide +kernel
theorem dX3_add_40 : decode cX3_add 40 = .ok (.iastore, 1) := by decide +kernel
theorem dX3_add_41 : decode cX3_add 41 = .ok (.aload_n 0, 1) := by decide +kernel
theorem dX3_add_42 : decode cX3_add 42 = .ok (.getfield 21, 3) := by decide +kernel
theorem dX3_add_45 : decode cX3_add 45 = .ok (.aload_n 0, 1) := by decide +kernel
theorem dX3_add_46 : decode cX3_add 46 = .ok (.getfield 37, 3) := by decide +kernel
theorem dX3_add_49 : decode cX3_add 49 = .ok (.iload 4, 2) := by decide +kernel
theorem dX3_add_51 : decode cX3_add 51 = .ok (.iastore, 1) := by decide +kernel
theorem dX3_add_52 : decode cX3_add 52 = .ok (.aload_n 0, 1) := by decide +kernel
theorem dX3_add_53 : decode cX3_add 53 = .ok (.getfield 24, 3) := by decide +kernel
theorem dX3_add_56 : decode cX3_add 56 = .ok (.aload_n 0, 1) := by decide +kernel
theorem dX3_add_57 : decode cX3_add 57 = .ok (.getfield 37, 3) := by decide +kernel
theorem dX3_add_60 : decode cX3_add 60 = .ok (.iload 5, 2) := by decide +kernel
theorem dX3_add_62 : decode cX3_add 62 = .ok (.iastore, 1) := by decide +kernel
theorem dX3_add_63 : decode cX3_add 63 = .ok (.aload_n 0, 1) := by decide +kernel
theorem dX3_add_64 : decode cX3_add 64 = .ok (.getfield 27, 3) := by decide +kernel
theorem dX3_add_67 : decode cX3_add 67 = .ok (.aload_n 0, 1) := by decide +kernel
theorem dX3_add_68 : decode cX3_add 68 = .ok (.getfield 37, 3) := by decide +kernel
theorem dX3_add_71 : decode cX3_add 71 = .ok (.iconst (-1), 1) := by decide +kernel
theorem dX3_add_72 : decode cX3_add 72 = .ok (.iastore, 1) := by decide +kernel
theorem dX3_add_73 : decode cX3_add 73 = .ok (.aload_n 0, 1) := by decide +kernel
theorem dX3_add_74 : decode cX3_add 74 = .ok (.dup, 1) := by decide +kernel
theorem dX3_add_75 : decode cX3_add 75 = .ok (.getfield 37, 3) := by decide +kernel
theorem dX3_add_78 : decode cX3_add 78 = .ok (.iconst 1, 1) := by decide +kernel
theorem dX3_add_79 : decode cX3_add 79 = .ok (.iadd, 1) := by decide +kernel
theorem dX3_add_80 : decode cX3_add 80 = .ok (.putfield 37, 3) := by decide +kernel
theorem dX3_add_83 : decode cX3_add 83 = .ok (.aload_n 0, 1) := by decide +kernel
theorem dX3_add_84 : decode cX3_add 84 = .ok (.getfield 37, 3) := by decide +kernel
theorem dX3_add_87 : decode cX3_add 87 = .ok (.iconst 1, 1) := by decide +kernel
theorem dX3_add_88 : decode cX3_add 88 = .ok (.isub, 1) := by decide +kernel
theorem dX3_add_89 : decode cX3_add 89 = .ok (.ireturn, 1) := by decide +kernel
theorem dX3_withdraw_0 : decode cX3_withdraw 0 = .ok (.iload_n 1, 1) := by decide +kernel
theorem dX3_withdraw_1 : decode cX3_withdraw 1 = .ok (.iconst 0, 1) := by decide +kernel
theorem dX3_withdraw_2 : decode cX3_withdraw 2 = .ok (.aload_n 0, 1) := by decide +kernel
theorem dX3_withdraw_3 : decode cX3_withdraw 3 = .ok (.getfield 37, 3) := by decide +kernel
theorem dX3_withdraw_6 : decode cX3_withdraw 6 = .ok (.iconst 1, 1) := by decide +kernel
theorem dX3_withdraw_7 : decode cX3_withdraw 7 = .ok (.isub, 1) := by decide +kernel
theorem dX3_withdraw_8 : decode cX3_withdraw 8 = .ok (.invokestatic 40, 3) := by decide +kernel
theorem dX3_withdraw_11 : decode cX3_withdraw 11 = .ok (.ifCond .eq 13, 3) := by decide +kernel
theorem dX3_withdraw_14 : decode cX3_withdraw 14 = .ok (.aload_n 0, 1) := by decide +kernel
theorem dX3_withdraw_15 : decode cX3_withdraw 15 = .ok (.getfield 27, 3) := by decide +kernel
theorem dX3_withdraw_18 : decode cX3_withdraw 18 = .ok (.iload_n 1, 1) := by decide +kernel
theorem dX3_withdraw_19 : decode cX3_withdraw 19 = .ok (.iaload, 1) := by decide +kernel
theorem dX3_withdraw_20 : decode cX3_withdraw 20 = .ok (.iconst (-1), 1) := by decide +kernel
theorem dX3_withdraw_21 : decode cX3_withdraw 21 = .ok (.if_icmp .eq 5, 3) := by decide +kernel
theorem dX3_withdraw_24 : decode cX3_withdraw 24 = .ok (.iconst 0, 1) := by decide +kernel
theorem dX3_withdraw_25 : decode cX3_withdraw 25 = .ok (.ireturn, 1) := by decide +kernel
theorem dX3_withdraw_26 : decode cX3_withdraw 26 = .ok (.aload_n 0, 1) := by decide +kernel
theorem dX3_withdraw_27 : decode cX3_withdraw 27 = .ok (.getfield 27, 3) := by decide +kernel
theorem dX3_withdraw_30 : decode cX3_withdraw 30 = .ok (.iload_n 1, 1) := by decide +kernel
theorem dX3_withdraw_31 : decode cX3_withdraw 31 = .ok (.iload_n 2, 1) := by decide +kernel
theorem dX3_withdraw_32 : decode cX3_withdraw 32 = .ok (.iastore, 1) := by decide +kernel
theorem dX3_withdraw_33 : decode cX3_withdraw 33 = .ok (.iconst 1, 1) := by decide +kernel
theorem dX3_withdraw_34 : decode cX3_withdraw 34 = .ok (.ireturn, 1) := by decide +kernel
theorem dX3_hear_0 : decode cX3_hear 0 = .ok (.aload_n 0, 1) := by decide +kernel
theorem dX3_hear_1 : decode cX3_hear 1 = .ok (.iload_n 1, 1) := by decide +kernel
theorem dX3_hear_2 : decode cX3_hear 2 = .ok (.iload_n 2, 1) := by decide +kernel
theorem dX3_hear_3 : decode cX3_hear 3 = .ok (.iload_n 3, 1) := by decide +kernel
theorem dX3_hear_4 : decode cX3_hear 4 = .ok (.invokevirtual 44, 3) := by decide +kernel
theorem dX3_hear_7 : decode cX3_hear 7 = .ok (.aload_n 0, 1) := by decide +kernel
theorem dX3_hear_8 : decode cX3_hear 8 = .ok (.iconst (-1), 1) := by decide +kernel
theorem dX3_hear_9 : decode cX3_hear 9 = .ok (.putfield 33, 3) := by decide +kernel
theorem dX3_hear_12 : decode cX3_hear 12 = .ok (.aload_n 0, 1) := by decide +kernel
theorem dX3_hear_13 : decode cX3_hear 13 = .ok (.iconst 0, 1) := by decide +kernel
theorem dX3_hear_14 : decode cX3_hear 14 = .ok (.putfield 48, 3) := by decide +kernel
theorem dX3_hear_17 : decode cX3_hear 17 = .ok (.iconst 0, 1) := by decide +kernel
theorem dX3_hear_18 : decode cX3_hear 18 = .ok (.istore 4, 2) := by decide +kernel
theorem dX3_hear_20 : decode cX3_hear 20 = .ok (.iload 4, 2) := by decide +kernel
theorem dX3_hear_22 : decode cX3_hear 22 = .ok (.iconst 5, 1) := by decide +kernel
theorem dX3_hear_23 : decode cX3_hear 23 = .ok (.if_icmp .ge 91, 3) := by decide +kernel
theorem dX3_hear_26 : decode cX3_hear 26 = .ok (.aload_n 0, 1) := by decide +kernel
theorem dX3_hear_27 : decode cX3_hear 27 = .ok (.getfield 30, 3) := by decide +kernel
theorem dX3_hear_30 : decode cX3_hear 30 = .ok (.iload 4, 2) := by decide +kernel
theorem dX3_hear_32 : decode cX3_hear 32 = .ok (.iaload, 1) := by decide +kernel
theorem dX3_hear_33 : decode cX3_hear 33 = .ok (.iconst (-1), 1) := by decide +kernel
theorem dX3_hear_34 : decode cX3_hear 34 = .ok (.if_icmp .ne 7, 3) := by decide +kernel
theorem dX3_hear_37 : decode cX3_hear 37 = .ok (.iconst 0, 1) := by decide +kernel
theorem dX3_hear_38 : decode cX3_hear 38 = .ok (.goto 14, 3) := by decide +kernel
theorem dX3_hear_41 : decode cX3_hear 41 = .ok (.aload_n 0, 1) := by decide +kernel
theorem dX3_hear_42 : decode cX3_hear 42 = .ok (.aload_n 0, 1) := by decide +kernel
theorem dX3_hear_43 : decode cX3_hear 43 = .ok (.getfield 30, 3) := by decide +kernel
theorem dX3_hear_46 : decode cX3_hear 46 = .ok (.iload 4, 2) := by decide +kernel
theorem dX3_hear_48 : decode cX3_hear 48 = .ok (.iaload, 1) := by decide +kernel
theorem dX3_hear_49 : decode cX3_hear 49 = .ok (.invokevirtual 51, 3) := by decide +kernel
theorem dX3_hear_52 : decode cX3_hear 52 = .ok (.istore 5, 2) := by decide +kernel
theorem dX3_hear_54 : decode cX3_hear 54 = .ok (.iload 5, 2) := by decide +kernel
theorem dX3_hear_56 : decode cX3_hear 56 = .ok (.aload_n 0, 1) := by decide +kernel
theorem dX3_hear_57 : decode cX3_hear 57 = .ok (.getfield 48, 3) := by decide +kernel
theorem dX3_hear_60 : decode cX3_hear 60 = .ok (.if_icmp .gt 31, 3) := by decide +kernel
theorem dX3_hear_63 : decode cX3_hear 63 = .ok (.iload 5, 2) := by decide +kernel
theorem dX3_hear_65 : decode cX3_hear 65 = .ok (.ifCond .le 43, 3) := by decide +kernel
theorem dX3_hear_68 : decode cX3_hear 68 = .ok (.iload 5, 2) := by decide +kernel
theorem dX3_hear_70 : decode cX3_hear 70 = .ok (.aload_n 0, 1) := by decide +kernel
theorem dX3_hear_71 : decode cX3_hear 71 = .ok (.getfield 48, 3) := by decide +kernel
theorem dX3_hear_74 : decode cX3_hear 74 = .ok (.if_icmp .ne 34, 3) := by decide +kernel
theorem dX3_hear_77 : decode cX3_hear 77 = .ok (.aload_n 0, 1) := by decide +kernel
theorem dX3_hear_78 : decode cX3_hear 78 = .ok (.getfield 30, 3) := by decide +kernel
theorem dX3_hear_81 : decode cX3_hear 81 = .ok (.iload 4, 2) := by decide +kernel
theorem dX3_hear_83 : decode cX3_hear 83 = .ok (.iaload, 1) := by decide +kernel
theorem dX3_hear_84 : decode cX3_hear 84 = .ok (.aload_n 0, 1) := by decide +kernel
theorem dX3_hear_85 : decode cX3_hear 85 = .ok (.getfield 33, 3) := by decide +kernel
theorem dX3_hear_88 : decode cX3_hear 88 = .ok (.if_icmp .ge 20, 3) := by decide +kernel
theorem dX3_hear_91 : decode cX3_hear 91 = .ok (.aload_n 0, 1) := by decide +kernel
theorem dX3_hear_92 : decode cX3_hear 92 = .ok (.aload_n 0, 1) := by decide +kernel
theorem dX3_hear_93 : decode cX3_hear 93 = .ok (.getfield 30, 3) := by decide +kernel
theorem dX3_hear_96 : decode cX3_hear 96 = .ok (.iload 4, 2) := by decide +kernel
theorem dX3_hear_98 : decode cX3_hear 98 = .ok (.iaload, 1) := by decide +kernel
theorem dX3_hear_99 : decode cX3_hear 99 = .ok (.putfield 33, 3) := by decide +kernel
theorem dX3_hear_102 : decode cX3_hear 102 = .ok (.aload_n 0, 1) := by decide +kernel
theorem dX3_hear_103 : decode cX3_hear 103 = .ok (.iload 5, 2) := by decide +kernel
theorem dX3_hear_105 : decode cX3_hear 105 = .ok (.putfield 48, 3) := by decide +kernel
theorem dX3_hear_108 : decode cX3_hear 108 = .ok (.iinc 4 1, 3) := by decide +kernel
theorem dX3_hear_111 : decode cX3_hear 111 = .ok (.goto (-91), 3) := by decide +kernel
theorem dX3_hear_114 : decode cX3_hear 114 = .ok (.return_, 1) := by decide +kernel
theorem dX3_gatherVoices_0 : decode cX3_gatherVoices 0 = .ok (.aload_n 0, 1) := by decide +kernel
theorem dX3_gatherVoices_1 : decode cX3_gatherVoices 1 = .ok (.getfield 30, 3) := by decide +kernel
theorem dX3_gatherVoices_4 : decode cX3_gatherVoices 4 = .ok (.iconst (-1), 1) := by decide +kernel
theorem dX3_gatherVoices_5 : decode cX3_gatherVoices 5 = .ok (.invokestatic 55, 3) := by decide +kernel
theorem dX3_gatherVoices_8 : decode cX3_gatherVoices 8 = .ok (.iconst 0, 1) := by decide +kernel
theorem dX3_gatherVoices_9 : decode cX3_gatherVoices 9 = .ok (.istore 4, 2) := by decide +kernel
theorem dX3_gatherVoices_11 : decode cX3_gatherVoices 11 = .ok (.iload 4, 2) := by decide +kernel
theorem dX3_gatherVoices_13 : decode cX3_gatherVoices 13 = .ok (.aload_n 0, 1) := by decide +kernel
theorem dX3_gatherVoices_14 : decode cX3_gatherVoices 14 = .ok (.getfield 37, 3) := by decide +kernel
theorem dX3_gatherVoices_17 : decode cX3_gatherVoices 17 = .ok (.if_icmp .ge 107, 3) := by decide +kernel
theorem dX3_gatherVoices_20 : decode cX3_gatherVoices 20 = .ok (.aload_n 0, 1) := by decide +kernel
theorem dX3_gatherVoices_21 : decode cX3_gatherVoices 21 = .ok (.getfield 15, 3) := by decide +kernel
theorem dX3_gatherVoices_24 : decode cX3_gatherVoices 24 = .ok (.iload 4, 2) := by decide +kernel
theorem dX3_gatherVoices_26 : decode cX3_gatherVoices 26 = .ok (.iaload, 1) := by decide +kernel
theorem dX3_gatherVoices_27 : decode cX3_gatherVoices 27 = .ok (.iload_n 1, 1) := by decide +kernel
theorem dX3_gatherVoices_28 : decode cX3_gatherVoices 28 = .ok (.if_icmp .ne 18, 3) := by decide +kernel
theorem dX3_gatherVoices_31 : decode cX3_gatherVoices 31 = .ok (.aload_n 0, 1) := by decide +kernel
theorem dX3_gatherVoices_32 : decode cX3_gatherVoices 32 = .ok (.getfield 18, 3) := by decide +kernel
theorem dX3_gatherVoices_35 : decode cX3_gatherVoices 35 = .ok (.iload 4, 2) := by decide +kernel
theorem dX3_gatherVoices_37 : decode cX3_gatherVoices 37 = .ok (.iaload, 1) := by decide +kernel
theorem dX3_gatherVoices_38 : decode cX3_gatherVoices 38 = .ok (.iload_n 2, 1) := by decide +kernel
theorem dX3_gatherVoices_39 : decode cX3_gatherVoices 39 = .ok (.if_icmp .ne 7, 3) := by decide +kernel
theorem dX3_gatherVoices_42 : decode cX3_gatherVoices 42 = .ok (.iconst 1, 1) := by decide +kernel
theorem dX3_gatherVoices_43 : decode cX3_gatherVoices 43 = .ok (.goto 4, 3) := by decide +kernel
theorem dX3_gatherVoices_46 : decode cX3_gatherVoices 46 = .ok (.iconst 0, 1) := by decide +kernel
theorem dX3_gatherVoices_47 : decode cX3_gatherVoices 47 = .ok (.istore 5, 2) := by decide +kernel
theorem dX3_gatherVoices_49 : decode cX3_gatherVoices 49 = .ok (.aload_n 0, 1) := by decide +kernel
theorem dX3_gatherVoices_50 : decode cX3_gatherVoices 50 = .ok (.getfield 27, 3) := by decide +kernel
theorem dX3_gatherVoices_53 : decode cX3_gatherVoices 53 = .ok (.iload 4, 2) := by decide +kernel
theorem dX3_gatherVoices_55 : decode cX3_gatherVoices 55 = .ok (.iaload, 1) := by decide +kernel
theorem dX3_gatherVoices_56 : decode cX3_gatherVoices 56 = .ok (.iconst (-1), 1) := by decide +kernel
theorem dX3_gatherVoices_57 : decode cX3_gatherVoices 57 = .ok (.if_icmp .eq 18, 3) := by decide +kernel
theorem dX3_gatherVoices_60 : decode cX3_gatherVoices 60 = .ok (.aload_n 0, 1) := by decide +kernel
theorem dX3_gatherVoices_61 : decode cX3_gatherVoices 61 = .ok (.getfield 27, 3) := by decide +kernel
theorem dX3_gatherVoices_64 : decode cX3_gatherVoices 64 = .ok (.iload 4, 2) := by decide +kernel
theorem dX3_gatherVoices_66 : decode cX3_gatherVoices 66 = .ok (.iaload, 1) := by decide +kernel
theorem dX3_gatherVoices_67 : decode cX3_gatherVoices 67 = .ok (.iload_n 3, 1) := by decide +kernel
theorem dX3_gatherVoices_68 : decode cX3_gatherVoices 68 = .ok (.if_icmp .gt 7, 3) := by decide +kernel
theorem dX3_gatherVoices_71 : decode cX3_gatherVoices 71 = .ok (.iconst 1, 1) := by decide +kernel
theorem dX3_gatherVoices_72 : decode cX3_gatherVoices 72 = .ok (.goto 4, 3) := by decide +kernel
theorem dX3_gatherVoices_75 : decode cX3_gatherVoices 75 = .ok (.iconst 0, 1) := by decide +kernel
theorem dX3_gatherVoices_76 : decode cX3_gatherVoices 76 = .ok (.istore 6, 2) := by decide +kernel
theorem dX3_gatherVoices_78 : decode cX3_gatherVoices 78 = .ok (.iload 5, 2) := by decide +kernel
theorem dX3_gatherVoices_80 : decode cX3_gatherVoices 80 = .ok (.ifCond .eq 38, 3) := by decide +kernel
theorem dX3_gatherVoices_83 : decode cX3_gatherVoices 83 = .ok (.aload_n 0, 1) := by decide +kernel
theorem dX3_gatherVoices_84 : decode cX3_gatherVoices 84 = .ok (.getfield 24, 3) := by decide +kernel
theorem dX3_gatherVoices_87 : decode cX3_gatherVoices 87 = .ok (.iload 4, 2) := by decide +kernel
theorem dX3_gatherVoices_89 : decode cX3_gatherVoices 89 = .ok (.iaload, 1) := by decide +kernel
theorem dX3_gatherVoices_90 : decode cX3_gatherVoices 90 = .ok (.iload_n 3, 1) := by decide +kernel
theorem dX3_gatherVoices_91 : decode cX3_gatherVoices 91 = .ok (.if_icmp .gt 27, 3) := by decide +kernel
theorem dX3_gatherVoices_94 : decode cX3_gatherVoices 94 = .ok (.iload 6, 2) := by decide +kernel
theorem dX3_gatherVoices_96 : decode cX3_gatherVoices 96 = .ok (.ifCond .ne 22, 3) := by decide +kernel
theorem dX3_gatherVoices_99 : decode cX3_gatherVoices 99 = .ok (.aload_n 0, 1) := by decide +kernel
theorem dX3_gatherVoices_100 : decode cX3_gatherVoices 100 = .ok (.getfield 30, 3) := by decide +kernel
theorem dX3_gatherVoices_103 : decode cX3_gatherVoices 103 = .ok (.aload_n 0, 1) := by decide +kernel
theorem dX3_gatherVoices_104 : decode cX3_gatherVoices 104 = .ok (.getfield 9, 3) := by decide +kernel
theorem dX3_gatherVoices_107 : decode cX3_gatherVoices 107 = .ok (.iload 4, 2) := by decide +kernel
theorem dX3_gatherVoices_109 : decode cX3_gatherVoices 109 = .ok (.iaload, 1) := by decide +kernel
theorem dX3_gatherVoices_110 : decode cX3_gatherVoices 110 = .ok (.aload_n 0, 1) := by decide +kernel
theorem dX3_gatherVoices_111 : decode cX3_gatherVoices 111 = .ok (.getfield 21, 3) := by decide +kernel
theorem dX3_gatherVoices_114 : decode cX3_gatherVoices 114 = .ok (.iload 4, 2) := by decide +kernel
theorem dX3_gatherVoices_116 : decode cX3_gatherVoices 116 = .ok (.iaload, 1) := by decide +kernel
theorem dX3_gatherVoices_117 : decode cX3_gatherVoices 117 = .ok (.iastore, 1) := by decide +kernel
theorem dX3_gatherVoices_118 : decode cX3_gatherVoices 118 = .ok (.iinc 4 1, 3) := by decide +kernel
theorem dX3_gatherVoices_121 : decode cX3_gatherVoices 121 = .ok (.goto (-110), 3) := by decide +kernel
theorem dX3_gatherVoices_124 : decode cX3_gatherVoices 124 = .ok (.return_, 1) := by decide +kernel
theorem dX3_voicesFor_0 : decode cX3_voicesFor 0 = .ok (.iconst 0, 1) := by decide +kernel
theorem dX3_voicesFor_1 : decode cX3_voicesFor 1 = .ok (.istore_n 2, 1) := by decide +kernel
theorem dX3_voicesFor_2 : decode cX3_voicesFor 2 = .ok (.iconst 0, 1) := by decide +kernel
theorem dX3_voicesFor_3 : decode cX3_voicesFor 3 = .ok (.istore_n 3, 1) := by decide +kernel
theorem dX3_voicesFor_4 : decode cX3_voicesFor 4 = .ok (.iload_n 3, 1) := by decide +kernel
theorem dX3_voicesFor_5 : decode cX3_voicesFor 5 = .ok (.iconst 5, 1) := by decide +kernel
theorem dX3_voicesFor_6 : decode cX3_voicesFor 6 = .ok (.if_icmp .ge 22, 3) := by decide +kernel
theorem dX3_voicesFor_9 : decode cX3_voicesFor 9 = .ok (.aload_n 0, 1) := by decide +kernel
theorem dX3_voicesFor_10 : decode cX3_voicesFor 10 = .ok (.getfield 30, 3) := by decide +kernel
theorem dX3_voicesFor_13 : decode cX3_voicesFor 13 = .ok (.iload_n 3, 1) := by decide +kernel
theorem dX3_voicesFor_14 : decode cX3_voicesFor 14 = .ok (.iaload, 1) := by decide +kernel
theorem dX3_voicesFor_15 : decode cX3_voicesFor 15 = .ok (.iload_n 1, 1) := by decide +kernel
theorem dX3_voicesFor_16 : decode cX3_voicesFor 16 = .ok (.if_icmp .ne 6, 3) := by decide +kernel
theorem dX3_voicesFor_19 : decode cX3_voicesFor 19 = .ok (.iinc 2 1, 3) := by decide +kernel
theorem dX3_voicesFor_22 : decode cX3_voicesFor 22 = .ok (.iinc 3 1, 3) := by decide +kernel
theorem dX3_voicesFor_25 : decode cX3_voicesFor 25 = .ok (.goto (-21), 3) := by decide +kernel
theorem dX3_voicesFor_28 : decode cX3_voicesFor 28 = .ok (.iload_n 2, 1) := by decide +kernel
theorem dX3_voicesFor_29 : decode cX3_voicesFor 29 = .ok (.ireturn, 1) := by decide +kernel
theorem dX4_init_0 : decode cX4_init 0 = .ok (.aload_n 0, 1) := by decide +kernel
theorem dX4_init_1 : decode cX4_init 1 = .ok (.invokespecial 3, 3) := by decide +kernel
theorem dX4_init_4 : decode cX4_init 4 = .ok (.aload_n 0, 1) := by decide +kernel
theorem dX4_init_5 : decode cX4_init 5 = .ok (.new 9, 3) := by decide +kernel
theorem dX4_init_8 : decode cX4_init 8 = .ok (.dup, 1) := by decide +kernel
theorem dX4_init_9 : decode cX4_init 9 = .ok (.invokespecial 11, 3) := by decide +kernel
theorem dX4_init_12 : decode cX4_init 12 = .ok (.putfield 12, 3) := by decide +kernel
theorem dX4_init_15 : decode cX4_init 15 = .ok (.aload_n 0, 1) := by decide +kernel
theorem dX4_init_16 : decode cX4_init 16 = .ok (.new 18, 3) := by decide +kernel
theorem dX4_init_19 : decode cX4_init 19 = .ok (.dup, 1) := by decide +kernel
theorem dX4_init_20 : decode cX4_init 20 = .ok (.invokespecial 20, 3) := by decide +kernel
theorem dX4_init_23 : decode cX4_init 23 = .ok (.putfield 21, 3) := by decide +kernel
theorem dX4_init_26 : decode cX4_init 26 = .ok (.aload_n 0, 1) := by decide +kernel
theorem dX4_init_27 : decode cX4_init 27 = .ok (.new 18, 3) := by decide +kernel
theorem dX4_init_30 : decode cX4_init 30 = .ok (.dup, 1) := by decide +kernel
theorem dX4_init_31 : decode cX4_init 31 = .ok (.invokespecial 20, 3) := by decide +kernel
theorem dX4_init_34 : decode cX4_init 34 = .ok (.putfield 25, 3) := by decide +kernel
theorem dX4_init_37 : decode cX4_init 37 = .ok (.aload_n 0, 1) := by decide +kernel
theorem dX4_init_38 : decode cX4_init 38 = .ok (.iconst (-1), 1) := by decide +kernel
theorem dX4_init_39 : decode cX4_init 39 = .ok (.putfield 28, 3) := by decide +kernel
theorem dX4_init_42 : decode cX4_init 42 = .ok (.return_, 1) := by decide +kernel
theorem dX4_read_0 : decode cX4_read 0 = .ok (.aload_n 0, 1) := by decide +kernel
theorem dX4_read_1 : decode cX4_read 1 = .ok (.getfield 12, 3) := by decide +kernel
theorem dX4_read_4 : decode cX4_read 4 = .ok (.aload_n 1, 1) := by decide +kernel
theorem dX4_read_5 : decode cX4_read 5 = .ok (.iload_n 2, 1) := by decide +kernel
theorem dX4_read_6 : decode cX4_read 6 = .ok (.invokevirtual 32, 3) := by decide +kernel
theorem dX4_read_9 : decode cX4_read 9 = .ok (.aload_n 0, 1) := by decide +kernel
theorem dX4_read_10 : decode cX4_read 10 = .ok (.getfield 25, 3) := by decide +kernel
theorem dX4_read_13 : decode cX4_read 13 = .ok (.invokevirtual 36, 3) := by decide +kernel
theorem dX4_read_16 : decode cX4_read 16 = .ok (.aload_n 0, 1) := by decide +kernel
theorem dX4_read_17 : decode cX4_read 17 = .ok (.iconst 0, 1) := by decide +kernel
theorem dX4_read_18 : decode cX4_read 18 = .ok (.putfield 39, 3) := by decide +kernel
theorem dX4_read_21 : decode cX4_read 21 = .ok (.aload_n 0, 1) := by decide +kernel
theorem dX4_read_22 : decode cX4_read 22 = .ok (.iconst 0, 1) := by decide +kernel
theorem dX4_read_23 : decode cX4_read 23 = .ok (.putfield 42, 3) := by decide +kernel
theorem dX4_read_26 : decode cX4_read 26 = .ok (.aload_n 0, 1) := by decide +kernel
theorem dX4_read_27 : decode cX4_read 27 = .ok (.iconst 0, 1) := by decide +kernel
theorem dX4_read_28 : decode cX4_read 28 = .ok (.putfield 45, 3) := by decide +kernel
theorem dX4_read_31 : decode cX4_read 31 = .ok (.iconst 1, 1) := by decide +kernel
theorem dX4_read_32 : decode cX4_read 32 = .ok (.istore_n 3, 1) := by decide +kernel
theorem dX4_read_33 : decode cX4_read 33 = .ok (.iconst 0, 1) := by decide +kernel
theorem dX4_read_34 : decode cX4_read 34 = .ok (.istore 4, 2) := by decide +kernel
theorem dX4_read_36 : decode cX4_read 36 = .ok (.iload 4, 2) := by decide +kernel
theorem dX4_read_38 : decode cX4_read 38 = .ok (.bipush 12, 2) := by decide +kernel
theorem dX4_read_40 : decode cX4_read 40 = .ok (.if_icmp .ge 25, 3) := by decide +kernel
theorem dX4_read_43 : decode cX4_read 43 = .ok (.iload_n 3, 1) := by decide +kernel
theorem dX4_read_44 : decode cX4_read 44 = .ok (.ifCond .eq 21, 3) := by decide +kernel
theorem dX4_read_47 : decode cX4_read 47 = .ok (.aload_n 0, 1) := by decide +kernel
theorem dX4_read_48 : decode cX4_read 48 = .ok (.invokevirtual 49, 3) := by decide +kernel
theorem dX4_read_51 : decode cX4_read 51 = .ok (.ifCond .eq 14, 3) := by decide +kernel
theorem dX4_read_54 : decode cX4_read 54 = .ok (.aload_n 0, 1) := by decide +kernel
theorem dX4_read_55 : decode cX4_read 55 = .ok (.invokevirtual 53, 3) := by decide +kernel
theorem dX4_read_58 : decode cX4_read 58 = .ok (.istore_n 3, 1) := by decide +kernel
theorem dX4_read_59 : decode cX4_read 59 = .ok (.iinc 4 1, 3) := by decide +kernel
theorem dX4_read_62 : decode cX4_read 62 = .ok (.goto (-26), 3) := by decide +kernel
theorem dX4_read_65 : decode cX4_read 65 = .ok (.iload_n 3, 1) := by decide +kernel
theorem dX4_read_66 : decode cX4_read 66 = .ok (.ifCond .eq 10, 3) := by decide +kernel
theorem dX4_read_69 : decode cX4_read 69 = .ok (.aload_n 0, 1) := by decide +kernel
theorem dX4_read_70 : decode cX4_read 70 = .ok (.invokevirtual 49, 3) := by decide +kernel
theorem dX4_read_73 : decode cX4_read 73 = .ok (.ifCond .eq 9, 3) := by decide +kernel
theorem dX4_read_76 : decode cX4_read 76 = .ok (.aload_n 0, 1) := by decide +kernel
theorem dX4_read_77 : decode cX4_read 77 = .ok (.invokevirtual 57, 3) := by decide +kernel
theorem dX4_read_80 : decode cX4_read 80 = .ok (.iconst (-1), 1) := by decide +kernel
theorem dX4_read_81 : decode cX4_read 81 = .ok (.ireturn, 1) := by decide +kernel
theorem dX4_read_82 : decode cX4_read 82 = .ok (.aload_n 0, 1) := by decide +kernel
theorem dX4_read_83 : decode cX4_read 83 = .ok (.iconst 0, 1) := by decide +kernel
theorem dX4_read_84 : decode cX4_read 84 = .ok (.putfield 60, 3) := by decide +kernel
theorem dX4_read_87 : decode cX4_read 87 = .ok (.aload_n 0, 1) := by decide +kernel
theorem dX4_read_88 : decode cX4_read 88 = .ok (.iconst (-1), 1) := by decide +kernel
theorem dX4_read_89 : decode cX4_read 89 = .ok (.putfield 28, 3) := by decide +kernel
theorem dX4_read_92 : decode cX4_read 92 = .ok (.aload_n 0, 1) := by decide +kernel
theorem dX4_read_93 : decode cX4_read 93 = .ok (.getfield 21, 3) := by decide +kernel
theorem dX4_read_96 : decode cX4_read 96 = .ok (.astore 4, 2) := by decide +kernel
theorem dX4_read_98 : decode cX4_read 98 = .ok (.aload_n 0, 1) := by decide +kernel
theorem dX4_read_99 : decode cX4_read 99 = .ok (.aload_n 0, 1) := by decide +kernel
theorem dX4_read_100 : decode cX4_read 100 = .ok (.getfield 25, 3) := by decide +kernel
theorem dX4_read_103 : decode cX4_read 103 = .ok (.putfield 21, 3) := by decide +kernel
theorem dX4_read_106 : decode cX4_read 106 = .ok (.aload_n 0, 1) := by decide +kernel
theorem dX4_read_107 : decode cX4_read 107 = .ok (.aload 4, 2) := by decide +kernel
theorem dX4_read_109 : decode cX4_read 109 = .ok (.putfield 25, 3) := by decide +kernel
theorem dX4_read_112 : decode cX4_read 112 = .ok (.aload_n 0, 1) := by decide +kernel
theorem dX4_read_113 : decode cX4_read 113 = .ok (.getfield 21, 3) := by decide +kernel
theorem dX4_read_116 : decode cX4_read 116 = .ok (.getfield 63, 3) := by decide +kernel
theorem dX4_read_119 : decode cX4_read 119 = .ok (.ireturn, 1) := by decide +kernel
theorem dX4_noteFault_0 : decode cX4_noteFault 0 = .ok (.aload_n 0, 1) := by decide +kernel
theorem dX4_noteFault_1 : decode cX4_noteFault 1 = .ok (.invokevirtual 49, 3) := by decide +kernel
theorem dX4_noteFault_4 : decode cX4_noteFault 4 = .ok (.iconst 1, 1) := by decide +kernel
theorem dX4_noteFault_5 : decode cX4_noteFault 5 = .ok (.if_icmp .ne 11, 3) := by decide +kernel
theorem dX4_noteFault_8 : decode cX4_noteFault 8 = .ok (.aload_n 0, 1) := by decide +kernel
theorem dX4_noteFault_9 : decode cX4_noteFault 9 = .ok (.iconst 1, 1) := by decide +kernel
theorem dX4_noteFault_10 : decode cX4_noteFault 10 = .ok (.putfield 60, 3) := by decide +kernel
theorem dX4_noteFault_13 : decode cX4_noteFault 13 = .ok (.goto 19, 3) := by decide +kernel
theorem dX4_noteFault_16 : decode cX4_noteFault 16 = .ok (.aload_n 0, 1) := by decide +kernel
theorem dX4_noteFault_17 : decode cX4_noteFault 17 = .ok (.aload_n 0, 1) := by decide +kernel
theorem dX4_noteFault_18 : decode cX4_noteFault 18 = .ok (.getfield 45, 3) := by decide +kernel
theorem dX4_noteFault_21 : decode cX4_noteFault 21 = .ok (.ifCond .eq 7, 3) := by decide +kernel
theorem dX4_noteFault_24 : decode cX4_noteFault 24 = .ok (.iconst 3, 1) := by decide +kernel
theorem dX4_noteFault_25 : decode cX4_noteFault 25 = .ok (.goto 4, 3) := by decide +kernel
theorem dX4_noteFault_28 : decode cX4_noteFault 28 = .ok (.iconst 2, 1) := by decide +kernel
theorem dX4_noteFault_29 : decode cX4_noteFault 29 = .ok (.putfield 60, 3) := by decide +kernel
theorem dX4_noteFault_32 : decode cX4_noteFault 32 = .ok (.aload_n 0, 1) := by decide +kernel
theorem dX4_noteFault_33 : decode cX4_noteFault 33 = .ok (.aload_n 0, 1) := by decide +kernel
theorem dX4_noteFault_34 : decode cX4_noteFault 34 = .ok (.getfield 39, 3) := by decide +kernel
theorem dX4_noteFault_37 : decode cX4_noteFault 37 = .ok (.aload_n 0, 1) := by decide +kernel
theorem dX4_noteFault_38 : decode cX4_noteFault 38 = .ok (.getfield 12, 3) := by decide +kernel
theorem dX4_noteFault_41 : decode cX4_noteFault 41 = .ok (.getfield 66, 3) := by decide +kernel
theorem dX4_noteFault_44 : decode cX4_noteFault 44 = .ok (.if_icmp .ge 18, 3) := by decide +kernel
theorem dX4_noteFault_47 : decode cX4_noteFault 47 = .ok (.aload_n 0, 1) := by decide +kernel
theorem dX4_noteFault_48 : decode cX4_noteFault 48 = .ok (.getfield 12, 3) := by decide +kernel
theorem dX4_noteFault_51 : decode cX4_noteFault 51 = .ok (.getfield 69, 3) := by decide +kernel
theorem dX4_noteFault_54 : decode cX4_noteFault 54 = .ok (.aload_n 0, 1) := by decide +kernel
theorem dX4_noteFault_55 : decode cX4_noteFault 55 = .ok (.getfield 39, 3) := by decide +kernel
theorem dX4_noteFault_58 : decode cX4_noteFault 58 = .ok (.saload, 1) := by decide +kernel
theorem dX4_noteFault_59 : decode cX4_noteFault 59 = .ok (.goto 4, 3) := by decide +kernel
theorem dX4_noteFault_62 : decode cX4_noteFault 62 = .ok (.iconst (-1), 1) := by decide +kernel
theorem dX4_noteFault_63 : decode cX4_noteFault 63 = .ok (.putfield 28, 3) := by decide +kernel
theorem dX4_noteFault_66 : decode cX4_noteFault 66 = .ok (.return_, 1) := by decide +kernel
theorem dX4_here_0 : decode cX4_here 0 = .ok (.aload_n 0, 1) := by decide +kernel
theorem dX4_here_1 : decode cX4_here 1 = .ok (.getfield 39, 3) := by decide +kernel
theorem dX4_here_4 : decode cX4_here 4 = .ok (.aload_n 0, 1) := by decide +kernel
theorem dX4_here_5 : decode cX4_here 5 = .ok (.getfield 12, 3) := by decide +kernel
theorem dX4_here_8 : decode cX4_here 8 = .ok (.getfield 66, 3) := by decide +kernel
theorem dX4_here_11 : decode cX4_here 11 = .ok (.if_icmp .ge 18, 3) := by decide +kernel
theorem dX4_here_14 : decode cX4_here 14 = .ok (.aload_n 0, 1) := by decide +kernel
theorem dX4_here_15 : decode cX4_here 15 = .ok (.getfield 12, 3) := by decide +kernel
theorem dX4_here_18 : decode cX4_here 18 = .ok (.getfield 73, 3) := by decide +kernel
theorem dX4_here_21 : decode cX4_here 21 = .ok (.aload_n 0, 1) := by decide +kernel
theorem dX4_here_22 : decode cX4_here 22 = .ok (.getfield 39, 3) := by decide +kernel
theorem dX4_here_25 : decode cX4_here 25 = .ok (.baload, 1) := by decide +kernel
theorem dX4_here_26 : decode cX4_here 26 = .ok (.goto 4, 3) := by decide +kernel
theorem dX4_here_29 : decode cX4_here 29 = .ok (.iconst 0, 1) := by decide +kernel
theorem dX4_here_30 : decode cX4_here 30 = .ok (.ireturn, 1) := by decide +kernel
theorem dX4_valueHere_0 : decode cX4_valueHere 0 = .ok (.aload_n 0, 1) := by decide +kernel
theorem dX4_valueHere_1 : decode cX4_valueHere 1 = .ok (.getfield 39, 3) := by decide +kernel
theorem dX4_valueHere_4 : decode cX4_valueHere 4 = .ok (.aload_n 0, 1) := by decide +kernel
theorem dX4_valueHere_5 : decode cX4_valueHere 5 = .ok (.getfield 12, 3) := by decide +kernel
theorem dX4_valueHere_8 : decode cX4_valueHere 8 = .ok (.getfield 66, 3) := by decide +kernel
theorem dX4_valueHere_11 : decode cX4_valueHere 11 = .ok (.if_icmp .ge 18, 3) := by decide +kernel
theorem dX4_valueHere_14 : decode cX4_valueHere 14 = .ok (.aload_n 0, 1) := by decide +kernel
end
section
theorem dX4_valueHere_15 : decode cX4_valueHere 15 = .ok (.getfield 12, 3) := by decide +kernel
theorem dX4_valueHere_18 : decode cX4_valueHere 18 = .ok (.getfield 77, 3) := by decide +kernel
theorem dX4_valueHere_21 : decode cX4_valueHere 21 = .ok (.aload_n 0, 1) := by decide +kernel
theorem dX4_valueHere_22 : decode cX4_valueHere 22 = .ok (.getfield 39, 3) := by decide +kernel
theorem dX4_valueHere_25 : decode cX4_valueHere 25 = .ok (.iaload, 1) := by decide +kernel
theorem dX4_valueHere_26 : decode cX4_valueHere 26 = .ok (.goto 4, 3) := by decide +kernel
theorem dX4_valueHere_29 : decode cX4_valueHere 29 = .ok (.iconst 0, 1) := by decide +kernel
theorem dX4_valueHere_30 : decode cX4_valueHere 30 = .ok (.ireturn, 1) := by decide +kernel
theorem dX4_accept_0 : decode cX4_accept 0 = .ok (.aload_n 0, 1) := by decide +kernel
theorem dX4_accept_1 : decode cX4_accept 1 = .ok (.getfield 39, 3) := by decide +kernel
theorem dX4_accept_4 : decode cX4_accept 4 = .ok (.aload_n 0, 1) := by decide +kernel
theorem dX4_accept_5 : decode cX4_accept 5 = .ok (.getfield 12, 3) := by decide +kernel
theorem dX4_accept_8 : decode cX4_accept 8 = .ok (.getfield 66, 3) := by decide +kernel
theorem dX4_accept_11 : decode cX4_accept 11 = .ok (.if_icmp .ge 23, 3) := by decide +kernel
theorem dX4_accept_14 : decode cX4_accept 14 = .ok (.aload_n 0, 1) := by decide +kernel
theorem dX4_accept_15 : decode cX4_accept 15 = .ok (.getfield 12, 3) := by decide +kernel
theorem dX4_accept_18 : decode cX4_accept 18 = .ok (.getfield 73, 3) := by decide +kernel
theorem dX4_accept_21 : decode cX4_accept 21 = .ok (.aload_n 0, 1) := by decide +kernel
theorem dX4_accept_22 : decode cX4_accept 22 = .ok (.getfield 39, 3) := by decide +kernel
theorem dX4_accept_25 : decode cX4_accept 25 = .ok (.baload, 1) := by decide +kernel
theorem dX4_accept_26 : decode cX4_accept 26 = .ok (.iload_n 1, 1) := by decide +kernel
theorem dX4_accept_27 : decode cX4_accept 27 = .ok (.if_icmp .ne 7, 3) := by decide +kernel
theorem dX4_accept_30 : decode cX4_accept 30 = .ok (.iconst 1, 1) := by decide +kernel
theorem dX4_accept_31 : decode cX4_accept 31 = .ok (.goto 4, 3) := by decide +kernel
theorem dX4_accept_34 : decode cX4_accept 34 = .ok (.iconst 0, 1) := by decide +kernel
theorem dX4_accept_35 : decode cX4_accept 35 = .ok (.istore_n 2, 1) := by decide +kernel
theorem dX4_accept_36 : decode cX4_accept 36 = .ok (.iload_n 2, 1) := by decide +kernel
theorem dX4_accept_37 : decode cX4_accept 37 = .ok (.ifCond .eq 13, 3) := by decide +kernel
theorem dX4_accept_40 : decode cX4_accept 40 = .ok (.aload_n 0, 1) := by decide +kernel
theorem dX4_accept_41 : decode cX4_accept 41 = .ok (.dup, 1) := by decide +kernel
theorem dX4_accept_42 : decode cX4_accept 42 = .ok (.getfield 39, 3) := by decide +kernel
theorem dX4_accept_45 : decode cX4_accept 45 = .ok (.iconst 1, 1) := by decide +kernel
theorem dX4_accept_46 : decode cX4_accept 46 = .ok (.iadd, 1) := by decide +kernel
theorem dX4_accept_47 : decode cX4_accept 47 = .ok (.putfield 39, 3) := by decide +kernel
theorem dX4_accept_50 : decode cX4_accept 50 = .ok (.iload_n 2, 1) := by decide +kernel
theorem dX4_accept_51 : decode cX4_accept 51 = .ok (.ireturn, 1) := by decide +kernel
theorem dX4_readLine_0 : decode cX4_readLine 0 = .ok (.aload_n 0, 1) := by decide +kernel
theorem dX4_readLine_1 : decode cX4_readLine 1 = .ok (.bipush 6, 2) := by decide +kernel
theorem dX4_readLine_3 : decode cX4_readLine 3 = .ok (.invokevirtual 81, 3) := by decide +kernel
theorem dX4_readLine_6 : decode cX4_readLine 6 = .ok (.ifCond .eq 13, 3) := by decide +kernel
theorem dX4_readLine_9 : decode cX4_readLine 9 = .ok (.aload_n 0, 1) := by decide +kernel
theorem dX4_readLine_10 : decode cX4_readLine 10 = .ok (.iconst 0, 1) := by decide +kernel
theorem dX4_readLine_11 : decode cX4_readLine 11 = .ok (.invokevirtual 85, 3) := by decide +kernel
theorem dX4_readLine_14 : decode cX4_readLine 14 = .ok (.ifCond .ne 5, 3) := by decide +kernel
theorem dX4_readLine_17 : decode cX4_readLine 17 = .ok (.iconst 0, 1) := by decide +kernel
theorem dX4_readLine_18 : decode cX4_readLine 18 = .ok (.ireturn, 1) := by decide +kernel
theorem dX4_readLine_19 : decode cX4_readLine 19 = .ok (.aload_n 0, 1) := by decide +kernel
theorem dX4_readLine_20 : decode cX4_readLine 20 = .ok (.bipush 7, 2) := by decide +kernel
theorem dX4_readLine_22 : decode cX4_readLine 22 = .ok (.invokevirtual 81, 3) := by decide +kernel
theorem dX4_readLine_25 : decode cX4_readLine 25 = .ok (.ifCond .ne 5, 3) := by decide +kernel
theorem dX4_readLine_28 : decode cX4_readLine 28 = .ok (.iconst 0, 1) := by decide +kernel
theorem dX4_readLine_29 : decode cX4_readLine 29 = .ok (.ireturn, 1) := by decide +kernel
theorem dX4_readLine_30 : decode cX4_readLine 30 = .ok (.aload_n 0, 1) := by decide +kernel
theorem dX4_readLine_31 : decode cX4_readLine 31 = .ok (.invokevirtual 88, 3) := by decide +kernel
theorem dX4_readLine_34 : decode cX4_readLine 34 = .ok (.istore_n 1, 1) := by decide +kernel
theorem dX4_readLine_35 : decode cX4_readLine 35 = .ok (.aload_n 0, 1) := by decide +kernel
theorem dX4_readLine_36 : decode cX4_readLine 36 = .ok (.iconst 2, 1) := by decide +kernel
theorem dX4_readLine_37 : decode cX4_readLine 37 = .ok (.invokevirtual 81, 3) := by decide +kernel
theorem dX4_readLine_40 : decode cX4_readLine 40 = .ok (.ifCond .ne 5, 3) := by decide +kernel
theorem dX4_readLine_43 : decode cX4_readLine 43 = .ok (.iconst 0, 1) := by decide +kernel
theorem dX4_readLine_44 : decode cX4_readLine 44 = .ok (.ireturn, 1) := by decide +kernel
theorem dX4_readLine_45 : decode cX4_readLine 45 = .ok (.aload_n 0, 1) := by decide +kernel
theorem dX4_readLine_46 : decode cX4_readLine 46 = .ok (.invokevirtual 88, 3) := by decide +kernel
theorem dX4_readLine_49 : decode cX4_readLine 49 = .ok (.istore_n 2, 1) := by decide +kernel
theorem dX4_readLine_50 : decode cX4_readLine 50 = .ok (.aload_n 0, 1) := by decide +kernel
theorem dX4_readLine_51 : decode cX4_readLine 51 = .ok (.iconst 4, 1) := by decide +kernel
theorem dX4_readLine_52 : decode cX4_readLine 52 = .ok (.invokevirtual 81, 3) := by decide +kernel
theorem dX4_readLine_55 : decode cX4_readLine 55 = .ok (.ifCond .eq 12, 3) := by decide +kernel
theorem dX4_readLine_58 : decode cX4_readLine 58 = .ok (.aload_n 0, 1) := by decide +kernel
theorem dX4_readLine_59 : decode cX4_readLine 59 = .ok (.bipush 8, 2) := by decide +kernel
theorem dX4_readLine_61 : decode cX4_readLine 61 = .ok (.invokevirtual 81, 3) := by decide +kernel
theorem dX4_readLine_64 : decode cX4_readLine 64 = .ok (.ifCond .ne 5, 3) := by decide +kernel
theorem dX4_readLine_67 : decode cX4_readLine 67 = .ok (.iconst 0, 1) := by decide +kernel
theorem dX4_readLine_68 : decode cX4_readLine 68 = .ok (.ireturn, 1) := by decide +kernel
theorem dX4_readLine_69 : decode cX4_readLine 69 = .ok (.aload_n 0, 1) := by decide +kernel
theorem dX4_readLine_70 : decode cX4_readLine 70 = .ok (.invokevirtual 88, 3) := by decide +kernel
theorem dX4_readLine_73 : decode cX4_readLine 73 = .ok (.istore_n 3, 1) := by decide +kernel
theorem dX4_readLine_74 : decode cX4_readLine 74 = .ok (.aload_n 0, 1) := by decide +kernel
theorem dX4_readLine_75 : decode cX4_readLine 75 = .ok (.iconst 3, 1) := by decide +kernel
theorem dX4_readLine_76 : decode cX4_readLine 76 = .ok (.invokevirtual 81, 3) := by decide +kernel
theorem dX4_readLine_79 : decode cX4_readLine 79 = .ok (.ifCond .eq 12, 3) := by decide +kernel
theorem dX4_readLine_82 : decode cX4_readLine 82 = .ok (.aload_n 0, 1) := by decide +kernel
theorem dX4_readLine_83 : decode cX4_readLine 83 = .ok (.bipush 9, 2) := by decide +kernel
theorem dX4_readLine_85 : decode cX4_readLine 85 = .ok (.invokevirtual 81, 3) := by decide +kernel
theorem dX4_readLine_88 : decode cX4_readLine 88 = .ok (.ifCond .ne 5, 3) := by decide +kernel
theorem dX4_readLine_91 : decode cX4_readLine 91 = .ok (.iconst 0, 1) := by decide +kernel
theorem dX4_readLine_92 : decode cX4_readLine 92 = .ok (.ireturn, 1) := by decide +kernel
theorem dX4_readLine_93 : decode cX4_readLine 93 = .ok (.aload_n 0, 1) := by decide +kernel
theorem dX4_readLine_94 : decode cX4_readLine 94 = .ok (.invokevirtual 88, 3) := by decide +kernel
theorem dX4_readLine_97 : decode cX4_readLine 97 = .ok (.istore 4, 2) := by decide +kernel
theorem dX4_readLine_99 : decode cX4_readLine 99 = .ok (.aload_n 0, 1) := by decide +kernel
theorem dX4_readLine_100 : decode cX4_readLine 100 = .ok (.aload_n 0, 1) := by decide +kernel
theorem dX4_readLine_101 : decode cX4_readLine 101 = .ok (.invokevirtual 49, 3) := by decide +kernel
theorem dX4_readLine_104 : decode cX4_readLine 104 = .ok (.iconst 3, 1) := by decide +kernel
theorem dX4_readLine_105 : decode cX4_readLine 105 = .ok (.if_icmp .ne 13, 3) := by decide +kernel
theorem dX4_readLine_108 : decode cX4_readLine 108 = .ok (.iload 4, 2) := by decide +kernel
theorem dX4_readLine_110 : decode cX4_readLine 110 = .ok (.iload_n 3, 1) := by decide +kernel
theorem dX4_readLine_111 : decode cX4_readLine 111 = .ok (.if_icmp .ne 7, 3) := by decide +kernel
theorem dX4_readLine_114 : decode cX4_readLine 114 = .ok (.iconst 1, 1) := by decide +kernel
theorem dX4_readLine_115 : decode cX4_readLine 115 = .ok (.goto 4, 3) := by decide +kernel
theorem dX4_readLine_118 : decode cX4_readLine 118 = .ok (.iconst 0, 1) := by decide +kernel
theorem dX4_readLine_119 : decode cX4_readLine 119 = .ok (.putfield 45, 3) := by decide +kernel
theorem dX4_readLine_122 : decode cX4_readLine 122 = .ok (.aload_n 0, 1) := by decide +kernel
theorem dX4_readLine_123 : decode cX4_readLine 123 = .ok (.getfield 45, 3) := by decide +kernel
theorem dX4_readLine_126 : decode cX4_readLine 126 = .ok (.ifCond .ne 20, 3) := by decide +kernel
theorem dX4_readLine_129 : decode cX4_readLine 129 = .ok (.aload_n 0, 1) := by decide +kernel
theorem dX4_readLine_130 : decode cX4_readLine 130 = .ok (.iconst 3, 1) := by decide +kernel
theorem dX4_readLine_131 : decode cX4_readLine 131 = .ok (.invokevirtual 81, 3) := by decide +kernel
theorem dX4_readLine_134 : decode cX4_readLine 134 = .ok (.ifCond .eq 12, 3) := by decide +kernel
theorem dX4_readLine_137 : decode cX4_readLine 137 = .ok (.aload_n 0, 1) := by decide +kernel
theorem dX4_readLine_138 : decode cX4_readLine 138 = .ok (.bipush 59, 2) := by decide +kernel
theorem dX4_readLine_140 : decode cX4_readLine 140 = .ok (.invokevirtual 81, 3) := by decide +kernel
theorem dX4_readLine_143 : decode cX4_readLine 143 = .ok (.ifCond .ne 5, 3) := by decide +kernel
theorem dX4_readLine_146 : decode cX4_readLine 146 = .ok (.iconst 0, 1) := by decide +kernel
theorem dX4_readLine_147 : decode cX4_readLine 147 = .ok (.ireturn, 1) := by decide +kernel
theorem dX4_readLine_148 : decode cX4_readLine 148 = .ok (.aload_n 0, 1) := by decide +kernel
theorem dX4_readLine_149 : decode cX4_readLine 149 = .ok (.getfield 25, 3) := by decide +kernel
theorem dX4_readLine_152 : decode cX4_readLine 152 = .ok (.iload_n 1, 1) := by decide +kernel
theorem dX4_readLine_153 : decode cX4_readLine 153 = .ok (.iload_n 2, 1) := by decide +kernel
theorem dX4_readLine_154 : decode cX4_readLine 154 = .ok (.iload_n 3, 1) := by decide +kernel
theorem dX4_readLine_155 : decode cX4_readLine 155 = .ok (.iload 4, 2) := by decide +kernel
theorem dX4_readLine_157 : decode cX4_readLine 157 = .ok (.invokevirtual 91, 3) := by decide +kernel
theorem dX4_readLine_160 : decode cX4_readLine 160 = .ok (.iconst 1, 1) := by decide +kernel
theorem dX4_readLine_161 : decode cX4_readLine 161 = .ok (.ireturn, 1) := by decide +kernel
theorem dX4_readEither_0 : decode cX4_readEither 0 = .ok (.iconst 0, 1) := by decide +kernel
theorem dX4_readEither_1 : decode cX4_readEither 1 = .ok (.istore_n 2, 1) := by decide +kernel
theorem dX4_readEither_2 : decode cX4_readEither 2 = .ok (.iload_n 2, 1) := by decide +kernel
theorem dX4_readEither_3 : decode cX4_readEither 3 = .ok (.bipush 80, 2) := by decide +kernel
theorem dX4_readEither_5 : decode cX4_readEither 5 = .ok (.if_icmp .ge 84, 3) := by decide +kernel
theorem dX4_readEither_8 : decode cX4_readEither 8 = .ok (.iconst 0, 1) := by decide +kernel
theorem dX4_readEither_9 : decode cX4_readEither 9 = .ok (.istore_n 3, 1) := by decide +kernel
theorem dX4_readEither_10 : decode cX4_readEither 10 = .ok (.iload_n 3, 1) := by decide +kernel
theorem dX4_readEither_11 : decode cX4_readEither 11 = .ok (.bipush 80, 2) := by decide +kernel
theorem dX4_readEither_13 : decode cX4_readEither 13 = .ok (.if_icmp .ge 45, 3) := by decide +kernel
theorem dX4_readEither_16 : decode cX4_readEither 16 = .ok (.aload_n 0, 1) := by decide +kernel
theorem dX4_readEither_17 : decode cX4_readEither 17 = .ok (.iload_n 1, 1) := by decide +kernel
theorem dX4_readEither_18 : decode cX4_readEither 18 = .ok (.invokevirtual 95, 3) := by decide +kernel
theorem dX4_readEither_21 : decode cX4_readEither 21 = .ok (.ifCond .ne 5, 3) := by decide +kernel
theorem dX4_readEither_24 : decode cX4_readEither 24 = .ok (.iconst 0, 1) := by decide +kernel
theorem dX4_readEither_25 : decode cX4_readEither 25 = .ok (.ireturn, 1) := by decide +kernel
theorem dX4_readEither_26 : decode cX4_readEither 26 = .ok (.iload_n 3, 1) := by decide +kernel
theorem dX4_readEither_27 : decode cX4_readEither 27 = .ok (.ifCond .le 13, 3) := by decide +kernel
theorem dX4_readEither_30 : decode cX4_readEither 30 = .ok (.aload_n 0, 1) := by decide +kernel
theorem dX4_readEither_31 : decode cX4_readEither 31 = .ok (.getfield 25, 3) := by decide +kernel
theorem dX4_readEither_34 : decode cX4_readEither 34 = .ok (.bipush 11, 2) := by decide +kernel
theorem dX4_readEither_36 : decode cX4_readEither 36 = .ok (.iconst 0, 1) := by decide +kernel
theorem dX4_readEither_37 : decode cX4_readEither 37 = .ok (.invokevirtual 98, 3) := by decide +kernel
theorem dX4_readEither_40 : decode cX4_readEither 40 = .ok (.aload_n 0, 1) := by decide +kernel
theorem dX4_readEither_41 : decode cX4_readEither 41 = .ok (.bipush 11, 2) := by decide +kernel
theorem dX4_readEither_43 : decode cX4_readEither 43 = .ok (.invokevirtual 81, 3) := by decide +kernel
theorem dX4_readEither_46 : decode cX4_readEither 46 = .ok (.ifCond .ne 6, 3) := by decide +kernel
theorem dX4_readEither_49 : decode cX4_readEither 49 = .ok (.goto 9, 3) := by decide +kernel
theorem dX4_readEither_52 : decode cX4_readEither 52 = .ok (.iinc 3 1, 3) := by decide +kernel
theorem dX4_readEither_55 : decode cX4_readEither 55 = .ok (.goto (-45), 3) := by decide +kernel
theorem dX4_readEither_58 : decode cX4_readEither 58 = .ok (.iload_n 2, 1) := by decide +kernel
theorem dX4_readEither_59 : decode cX4_readEither 59 = .ok (.ifCond .le 13, 3) := by decide +kernel
theorem dX4_readEither_62 : decode cX4_readEither 62 = .ok (.aload_n 0, 1) := by decide +kernel
theorem dX4_readEither_63 : decode cX4_readEither 63 = .ok (.getfield 25, 3) := by decide +kernel
theorem dX4_readEither_66 : decode cX4_readEither 66 = .ok (.bipush 10, 2) := by decide +kernel
theorem dX4_readEither_68 : decode cX4_readEither 68 = .ok (.iconst 0, 1) := by decide +kernel
theorem dX4_readEither_69 : decode cX4_readEither 69 = .ok (.invokevirtual 98, 3) := by decide +kernel
theorem dX4_readEither_72 : decode cX4_readEither 72 = .ok (.aload_n 0, 1) := by decide +kernel
theorem dX4_readEither_73 : decode cX4_readEither 73 = .ok (.bipush 10, 2) := by decide +kernel
theorem dX4_readEither_75 : decode cX4_readEither 75 = .ok (.invokevirtual 81, 3) := by decide +kernel
theorem dX4_readEither_78 : decode cX4_readEither 78 = .ok (.ifCond .ne 5, 3) := by decide +kernel
theorem dX4_readEither_81 : decode cX4_readEither 81 = .ok (.iconst 1, 1) := by decide +kernel
theorem dX4_readEither_82 : decode cX4_readEither 82 = .ok (.ireturn, 1) := by decide +kernel
theorem dX4_readEither_83 : decode cX4_readEither 83 = .ok (.iinc 2 1, 3) := by decide +kernel
theorem dX4_readEither_86 : decode cX4_readEither 86 = .ok (.goto (-84), 3) := by decide +kernel
theorem dX4_readEither_89 : decode cX4_readEither 89 = .ok (.iconst 0, 1) := by decide +kernel
theorem dX4_readEither_90 : decode cX4_readEither 90 = .ok (.ireturn, 1) := by decide +kernel
theorem dX4_readOne_0 : decode cX4_readOne 0 = .ok (.iload_n 1, 1) := by decide +kernel
theorem dX4_readOne_1 : decode cX4_readOne 1 = .ok (.bipush 8, 2) := by decide +kernel
theorem dX4_readOne_3 : decode cX4_readOne 3 = .ok (.if_icmp .lt 5, 3) := by decide +kernel
theorem dX4_readOne_6 : decode cX4_readOne 6 = .ok (.iconst 0, 1) := by decide +kernel
theorem dX4_readOne_7 : decode cX4_readOne 7 = .ok (.ireturn, 1) := by decide +kernel
theorem dX4_readOne_8 : decode cX4_readOne 8 = .ok (.aload_n 0, 1) := by decide +kernel
theorem dX4_readOne_9 : decode cX4_readOne 9 = .ok (.bipush 12, 2) := by decide +kernel
theorem dX4_readOne_11 : decode cX4_readOne 11 = .ok (.invokevirtual 81, 3) := by decide +kernel
theorem dX4_readOne_14 : decode cX4_readOne 14 = .ok (.ifCond .eq 27, 3) := by decide +kernel
theorem dX4_readOne_17 : decode cX4_readOne 17 = .ok (.aload_n 0, 1) := by decide +kernel
theorem dX4_readOne_18 : decode cX4_readOne 18 = .ok (.iload_n 1, 1) := by decide +kernel
theorem dX4_readOne_19 : decode cX4_readOne 19 = .ok (.iconst 1, 1) := by decide +kernel
theorem dX4_readOne_20 : decode cX4_readOne 20 = .ok (.iadd, 1) := by decide +kernel
theorem dX4_readOne_21 : decode cX4_readOne 21 = .ok (.invokevirtual 95, 3) := by decide +kernel
theorem dX4_readOne_24 : decode cX4_readOne 24 = .ok (.ifCond .ne 5, 3) := by decide +kernel
theorem dX4_readOne_27 : decode cX4_readOne 27 = .ok (.iconst 0, 1) := by decide +kernel
theorem dX4_readOne_28 : decode cX4_readOne 28 = .ok (.ireturn, 1) := by decide +kernel
theorem dX4_readOne_29 : decode cX4_readOne 29 = .ok (.aload_n 0, 1) := by decide +kernel
theorem dX4_readOne_30 : decode cX4_readOne 30 = .ok (.getfield 25, 3) := by decide +kernel
theorem dX4_readOne_33 : decode cX4_readOne 33 = .ok (.bipush 12, 2) := by decide +kernel
theorem dX4_readOne_35 : decode cX4_readOne 35 = .ok (.iconst 0, 1) := by decide +kernel
theorem dX4_readOne_36 : decode cX4_readOne 36 = .ok (.invokevirtual 98, 3) := by decide +kernel
theorem dX4_readOne_39 : decode cX4_readOne 39 = .ok (.iconst 1, 1) := by decide +kernel
theorem dX4_readOne_40 : decode cX4_readOne 40 = .ok (.ireturn, 1) := by decide +kernel
theorem dX4_readOne_41 : decode cX4_readOne 41 = .ok (.aload_n 0, 1) := by decide +kernel
theorem dX4_readOne_42 : decode cX4_readOne 42 = .ok (.bipush 40, 2) := by decide +kernel
theorem dX4_readOne_44 : decode cX4_readOne 44 = .ok (.invokevirtual 81, 3) := by decide +kernel
theorem dX4_readOne_47 : decode cX4_readOne 47 = .ok (.ifCond .eq 28, 3) := by decide +kernel
theorem dX4_readOne_50 : decode cX4_readOne 50 = .ok (.aload_n 0, 1) := by decide +kernel
theorem dX4_readOne_51 : decode cX4_readOne 51 = .ok (.iload_n 1, 1) := by decide +kernel
theorem dX4_readOne_52 : decode cX4_readOne 52 = .ok (.iconst 1, 1) := by decide +kernel
theorem dX4_readOne_53 : decode cX4_readOne 53 = .ok (.iadd, 1) := by decide +kernel
theorem dX4_readOne_54 : decode cX4_readOne 54 = .ok (.invokevirtual 85, 3) := by decide +kernel
theorem dX4_readOne_57 : decode cX4_readOne 57 = .ok (.ifCond .eq 16, 3) := by decide +kernel
theorem dX4_readOne_60 : decode cX4_readOne 60 = .ok (.aload_n 0, 1) := by decide +kernel
theorem dX4_readOne_61 : decode cX4_readOne 61 = .ok (.bipush 41, 2) := by decide +kernel
theorem dX4_readOne_63 : decode cX4_readOne 63 = .ok (.invokevirtual 81, 3) := by decide +kernel
theorem dX4_readOne_66 : decode cX4_readOne 66 = .ok (.ifCond .eq 7, 3) := by decide +kernel
theorem dX4_readOne_69 : decode cX4_readOne 69 = .ok (.iconst 1, 1) := by decide +kernel
theorem dX4_readOne_70 : decode cX4_readOne 70 = .ok (.goto 4, 3) := by decide +kernel
theorem dX4_readOne_73 : decode cX4_readOne 73 = .ok (.iconst 0, 1) := by decide +kernel
theorem dX4_readOne_74 : decode cX4_readOne 74 = .ok (.ireturn, 1) := by decide +kernel
theorem dX4_readOne_75 : decode cX4_readOne 75 = .ok (.aload_n 0, 1) := by decide +kernel
theorem dX4_readOne_76 : decode cX4_readOne 76 = .ok (.invokevirtual 102, 3) := by decide +kernel
theorem dX4_readOne_79 : decode cX4_readOne 79 = .ok (.ifCond .ne 5, 3) := by decide +kernel
theorem dX4_readOne_82 : decode cX4_readOne 82 = .ok (.iconst 0, 1) := by decide +kernel
theorem dX4_readOne_83 : decode cX4_readOne 83 = .ok (.ireturn, 1) := by decide +kernel
theorem dX4_readOne_84 : decode cX4_readOne 84 = .ok (.aload_n 0, 1) := by decide +kernel
theorem dX4_readOne_85 : decode cX4_readOne 85 = .ok (.invokevirtual 49, 3) := by decide +kernel
theorem dX4_readOne_88 : decode cX4_readOne 88 = .ok (.istore_n 2, 1) := by decide +kernel
theorem dX4_readOne_89 : decode cX4_readOne 89 = .ok (.aload_n 0, 1) := by decide +kernel
theorem dX4_readOne_90 : decode cX4_readOne 90 = .ok (.bipush 60, 2) := by decide +kernel
theorem dX4_readOne_92 : decode cX4_readOne 92 = .ok (.invokevirtual 81, 3) := by decide +kernel
theorem dX4_readOne_95 : decode cX4_readOne 95 = .ok (.ifCond .ne 23, 3) := by decide +kernel
theorem dX4_readOne_98 : decode cX4_readOne 98 = .ok (.aload_n 0, 1) := by decide +kernel
theorem dX4_readOne_99 : decode cX4_readOne 99 = .ok (.bipush 62, 2) := by decide +kernel
theorem dX4_readOne_101 : decode cX4_readOne 101 = .ok (.invokevirtual 81, 3) := by decide +kernel
theorem dX4_readOne_104 : decode cX4_readOne 104 = .ok (.ifCond .ne 14, 3) := by decide +kernel
theorem dX4_readOne_107 : decode cX4_readOne 107 = .ok (.aload_n 0, 1) := by decide +kernel
theorem dX4_readOne_108 : decode cX4_readOne 108 = .ok (.bipush 61, 2) := by decide +kernel
theorem dX4_readOne_110 : decode cX4_readOne 110 = .ok (.invokevirtual 81, 3) := by decide +kernel
theorem dX4_readOne_113 : decode cX4_readOne 113 = .ok (.ifCond .ne 5, 3) := by decide +kernel
theorem dX4_readOne_116 : decode cX4_readOne 116 = .ok (.iconst 0, 1) := by decide +kernel
theorem dX4_readOne_117 : decode cX4_readOne 117 = .ok (.ireturn, 1) := by decide +kernel
theorem dX4_readOne_118 : decode cX4_readOne 118 = .ok (.aload_n 0, 1) := by decide +kernel
theorem dX4_readOne_119 : decode cX4_readOne 119 = .ok (.invokevirtual 102, 3) := by decide +kernel
theorem dX4_readOne_122 : decode cX4_readOne 122 = .ok (.ifCond .ne 5, 3) := by decide +kernel
theorem dX4_readOne_125 : decode cX4_readOne 125 = .ok (.iconst 0, 1) := by decide +kernel
theorem dX4_readOne_126 : decode cX4_readOne 126 = .ok (.ireturn, 1) := by decide +kernel
theorem dX4_readOne_127 : decode cX4_readOne 127 = .ok (.aload_n 0, 1) := by decide +kernel
theorem dX4_readOne_128 : decode cX4_readOne 128 = .ok (.getfield 25, 3) := by decide +kernel
theorem dX4_readOne_131 : decode cX4_readOne 131 = .ok (.iload_n 2, 1) := by decide +kernel
theorem dX4_readOne_132 : decode cX4_readOne 132 = .ok (.iconst 0, 1) := by decide +kernel
theorem dX4_readOne_133 : decode cX4_readOne 133 = .ok (.invokevirtual 98, 3) := by decide +kernel
theorem dX4_readOne_136 : decode cX4_readOne 136 = .ok (.iconst 1, 1) := by decide +kernel
theorem dX4_readOne_137 : decode cX4_readOne 137 = .ok (.ireturn, 1) := by decide +kernel
theorem dX4_readSum_0 : decode cX4_readSum 0 = .ok (.aload_n 0, 1) := by decide +kernel
theorem dX4_readSum_1 : decode cX4_readSum 1 = .ok (.invokevirtual 105, 3) := by decide +kernel
theorem dX4_readSum_4 : decode cX4_readSum 4 = .ok (.ifCond .ne 5, 3) := by decide +kernel
theorem dX4_readSum_7 : decode cX4_readSum 7 = .ok (.iconst 0, 1) := by decide +kernel
theorem dX4_readSum_8 : decode cX4_readSum 8 = .ok (.ireturn, 1) := by decide +kernel
theorem dX4_readSum_9 : decode cX4_readSum 9 = .ok (.iconst 0, 1) := by decide +kernel
theorem dX4_readSum_10 : decode cX4_readSum 10 = .ok (.istore_n 1, 1) := by decide +kernel
theorem dX4_readSum_11 : decode cX4_readSum 11 = .ok (.iload_n 1, 1) := by decide +kernel
theorem dX4_readSum_12 : decode cX4_readSum 12 = .ok (.bipush 80, 2) := by decide +kernel
theorem dX4_readSum_14 : decode cX4_readSum 14 = .ok (.if_icmp .ge 52, 3) := by decide +kernel
theorem dX4_readSum_17 : decode cX4_readSum 17 = .ok (.aload_n 0, 1) := by decide +kernel
theorem dX4_readSum_18 : decode cX4_readSum 18 = .ok (.invokevirtual 49, 3) := by decide +kernel
theorem dX4_readSum_21 : decode cX4_readSum 21 = .ok (.istore_n 2, 1) := by decide +kernel
theorem dX4_readSum_22 : decode cX4_readSum 22 = .ok (.aload_n 0, 1) := by decide +kernel
theorem dX4_readSum_23 : decode cX4_readSum 23 = .ok (.bipush 43, 2) := by decide +kernel
theorem dX4_readSum_25 : decode cX4_readSum 25 = .ok (.invokevirtual 81, 3) := by decide +kernel
theorem dX4_readSum_28 : decode cX4_readSum 28 = .ok (.ifCond .ne 14, 3) := by decide +kernel
theorem dX4_readSum_31 : decode cX4_readSum 31 = .ok (.aload_n 0, 1) := by decide +kernel
theorem dX4_readSum_32 : decode cX4_readSum 32 = .ok (.bipush 45, 2) := by decide +kernel
theorem dX4_readSum_34 : decode cX4_readSum 34 = .ok (.invokevirtual 81, 3) := by decide +kernel
theorem dX4_readSum_37 : decode cX4_readSum 37 = .ok (.ifCond .ne 5, 3) := by decide +kernel
theorem dX4_readSum_40 : decode cX4_readSum 40 = .ok (.iconst 1, 1) := by decide +kernel
theorem dX4_readSum_41 : decode cX4_readSum 41 = .ok (.ireturn, 1) := by decide +kernel
theorem dX4_readSum_42 : decode cX4_readSum 42 = .ok (.aload_n 0, 1) := by decide +kernel
theorem dX4_readSum_43 : decode cX4_readSum 43 = .ok (.invokevirtual 105, 3) := by decide +kernel
theorem dX4_readSum_46 : decode cX4_readSum 46 = .ok (.ifCond .ne 5, 3) := by decide +kernel
theorem dX4_readSum_49 : decode cX4_readSum 49 = .ok (.iconst 0, 1) := by decide +kernel
theorem dX4_readSum_50 : decode cX4_readSum 50 = .ok (.ireturn, 1) := by decide +kernel
theorem dX4_readSum_51 : decode cX4_readSum 51 = .ok (.aload_n 0, 1) := by decide +kernel
theorem dX4_readSum_52 : decode cX4_readSum 52 = .ok (.getfield 25, 3) := by decide +kernel
theorem dX4_readSum_55 : decode cX4_readSum 55 = .ok (.iload_n 2, 1) := by decide +kernel
theorem dX4_readSum_56 : decode cX4_readSum 56 = .ok (.iconst 0, 1) := by decide +kernel
theorem dX4_readSum_57 : decode cX4_readSum 57 = .ok (.invokevirtual 98, 3) := by decide +kernel
theorem dX4_readSum_60 : decode cX4_readSum 60 = .ok (.iinc 1 1, 3) := by decide +kernel
theorem dX4_readSum_63 : decode cX4_readSum 63 = .ok (.goto (-52), 3) := by decide +kernel
theorem dX4_readSum_66 : decode cX4_readSum 66 = .ok (.iconst 0, 1) := by decide +kernel
theorem dX4_readSum_67 : decode cX4_readSum 67 = .ok (.ireturn, 1) := by decide +kernel
theorem dX4_readTerm_0 : decode cX4_readTerm 0 = .ok (.aload_n 0, 1) := by decide +kernel
theorem dX4_readTerm_1 : decode cX4_readTerm 1 = .ok (.getfield 42, 3) := by decide +kernel
theorem dX4_readTerm_4 : decode cX4_readTerm 4 = .ok (.bipush 80, 2) := by decide +kernel
theorem dX4_readTerm_6 : decode cX4_readTerm 6 = .ok (.if_icmp .lt 5, 3) := by decide +kernel
theorem dX4_readTerm_9 : decode cX4_readTerm 9 = .ok (.iconst 0, 1) := by decide +kernel
theorem dX4_readTerm_10 : decode cX4_readTerm 10 = .ok (.ireturn, 1) := by decide +kernel
theorem dX4_readTerm_11 : decode cX4_readTerm 11 = .ok (.aload_n 0, 1) := by decide +kernel
theorem dX4_readTerm_12 : decode cX4_readTerm 12 = .ok (.dup, 1) := by decide +kernel
theorem dX4_readTerm_13 : decode cX4_readTerm 13 = .ok (.getfield 42, 3) := by decide +kernel
theorem dX4_readTerm_16 : decode cX4_readTerm 16 = .ok (.iconst 1, 1) := by decide +kernel
theorem dX4_readTerm_17 : decode cX4_readTerm 17 = .ok (.iadd, 1) := by decide +kernel
theorem dX4_readTerm_18 : decode cX4_readTerm 18 = .ok (.putfield 42, 3) := by decide +kernel
theorem dX4_readTerm_21 : decode cX4_readTerm 21 = .ok (.aload_n 0, 1) := by decide +kernel
theorem dX4_readTerm_22 : decode cX4_readTerm 22 = .ok (.invokevirtual 49, 3) := by decide +kernel
theorem dX4_readTerm_25 : decode cX4_readTerm 25 = .ok (.istore_n 1, 1) := by decide +kernel
theorem dX4_readTerm_26 : decode cX4_readTerm 26 = .ok (.aload_n 0, 1) := by decide +kernel
theorem dX4_readTerm_27 : decode cX4_readTerm 27 = .ok (.invokevirtual 88, 3) := by decide +kernel
theorem dX4_readTerm_30 : decode cX4_readTerm 30 = .ok (.istore_n 2, 1) := by decide +kernel
theorem dX4_readTerm_31 : decode cX4_readTerm 31 = .ok (.aload_n 0, 1) := by decide +kernel
theorem dX4_readTerm_32 : decode cX4_readTerm 32 = .ok (.iconst 2, 1) := by decide +kernel
theorem dX4_readTerm_33 : decode cX4_readTerm 33 = .ok (.invokevirtual 81, 3) := by decide +kernel
theorem dX4_readTerm_36 : decode cX4_readTerm 36 = .ok (.ifCond .ne 12, 3) := by decide +kernel
theorem dX4_readTerm_39 : decode cX4_readTerm 39 = .ok (.aload_n 0, 1) := by decide +kernel
theorem dX4_readTerm_40 : decode cX4_readTerm 40 = .ok (.bipush 13, 2) := by decide +kernel
theorem dX4_readTerm_42 : decode cX4_readTerm 42 = .ok (.invokevirtual 81, 3) := by decide +kernel
theorem dX4_readTerm_45 : decode cX4_readTerm 45 = .ok (.ifCond .eq 14, 3) := by decide +kernel
theorem dX4_readTerm_48 : decode cX4_readTerm 48 = .ok (.aload_n 0, 1) := by decide +kernel
theorem dX4_readTerm_49 : decode cX4_readTerm 49 = .ok (.getfield 25, 3) := by decide +kernel
theorem dX4_readTerm_52 : decode cX4_readTerm 52 = .ok (.iload_n 1, 1) := by decide +kernel
theorem dX4_readTerm_53 : decode cX4_readTerm 53 = .ok (.iload_n 2, 1) := by decide +kernel
theorem dX4_readTerm_54 : decode cX4_readTerm 54 = .ok (.invokevirtual 98, 3) := by decide +kernel
theorem dX4_readTerm_57 : decode cX4_readTerm 57 = .ok (.iconst 1, 1) := by decide +kernel
theorem dX4_readTerm_58 : decode cX4_readTerm 58 = .ok (.ireturn, 1) := by decide +kernel
theorem dX4_readTerm_59 : decode cX4_readTerm 59 = .ok (.iload_n 1, 1) := by decide +kernel
theorem dX4_readTerm_60 : decode cX4_readTerm 60 = .ok (.bipush 15, 2) := by decide +kernel
theorem dX4_readTerm_62 : decode cX4_readTerm 62 = .ok (.if_icmp .eq 9, 3) := by decide +kernel
theorem dX4_readTerm_65 : decode cX4_readTerm 65 = .ok (.iload_n 1, 1) := by decide +kernel
theorem dX4_readTerm_66 : decode cX4_readTerm 66 = .ok (.bipush 16, 2) := by decide +kernel
theorem dX4_readTerm_68 : decode cX4_readTerm 68 = .ok (.if_icmp .ne 7, 3) := by decide +kernel
theorem dX4_readTerm_71 : decode cX4_readTerm 71 = .ok (.iconst 1, 1) := by decide +kernel
theorem dX4_readTerm_72 : decode cX4_readTerm 72 = .ok (.goto 4, 3) := by decide +kernel
theorem dX4_readTerm_75 : decode cX4_readTerm 75 = .ok (.iconst 0, 1) := by decide +kernel
theorem dX4_readTerm_76 : decode cX4_readTerm 76 = .ok (.istore_n 3, 1) := by decide +kernel
theorem dX4_readTerm_77 : decode cX4_readTerm 77 = .ok (.aload_n 0, 1) := by decide +kernel
theorem dX4_readTerm_78 : decode cX4_readTerm 78 = .ok (.bipush 14, 2) := by decide +kernel
theorem dX4_readTerm_80 : decode cX4_readTerm 80 = .ok (.invokevirtual 81, 3) := by decide +kernel
theorem dX4_readTerm_83 : decode cX4_readTerm 83 = .ok (.ifCond .ne 32, 3) := by decide +kernel
theorem dX4_readTerm_86 : decode cX4_readTerm 86 = .ok (.aload_n 0, 1) := by decide +kernel
theorem dX4_readTerm_87 : decode cX4_readTerm 87 = .ok (.bipush 17, 2) := by decide +kernel
theorem dX4_readTerm_89 : decode cX4_readTerm 89 = .ok (.invokevirtual 81, 3) := by decide +kernel
theorem dX4_readTerm_92 : decode cX4_readTerm 92 = .ok (.ifCond .ne 23, 3) := by decide +kernel
theorem dX4_readTerm_95 : decode cX4_readTerm 95 = .ok (.aload_n 0, 1) := by decide +kernel
theorem dX4_readTerm_96 : decode cX4_readTerm 96 = .ok (.bipush 15, 2) := by decide +kernel
theorem dX4_readTerm_98 : decode cX4_readTerm 98 = .ok (.invokevirtual 81, 3) := by decide +kernel
theorem dX4_readTerm_101 : decode cX4_readTerm 101 = .ok (.ifCond .ne 14, 3) := by decide +kernel
theorem dX4_readTerm_104 : decode cX4_readTerm 104 = .ok (.aload_n 0, 1) := by decide +kernel
theorem dX4_readTerm_105 : decode cX4_readTerm 105 = .ok (.bipush 16, 2) := by decide +kernel
theorem dX4_readTerm_107 : decode cX4_readTerm 107 = .ok (.invokevirtual 81, 3) := by decide +kernel
theorem dX4_readTerm_110 : decode cX4_readTerm 110 = .ok (.ifCond .ne 5, 3) := by decide +kernel
theorem dX4_readTerm_113 : decode cX4_readTerm 113 = .ok (.iconst 0, 1) := by decide +kernel
theorem dX4_readTerm_114 : decode cX4_readTerm 114 = .ok (.ireturn, 1) := by decide +kernel
theorem dX4_readTerm_115 : decode cX4_readTerm 115 = .ok (.aload_n 0, 1) := by decide +kernel
theorem dX4_readTerm_116 : decode cX4_readTerm 116 = .ok (.invokevirtual 88, 3) := by decide +kernel
theorem dX4_readTerm_119 : decode cX4_readTerm 119 = .ok (.istore 4, 2) := by decide +kernel
theorem dX4_readTerm_121 : decode cX4_readTerm 121 = .ok (.aload_n 0, 1) := by decide +kernel
theorem dX4_readTerm_122 : decode cX4_readTerm 122 = .ok (.iconst 3, 1) := by decide +kernel
theorem dX4_readTerm_123 : decode cX4_readTerm 123 = .ok (.invokevirtual 81, 3) := by decide +kernel
theorem dX4_readTerm_126 : decode cX4_readTerm 126 = .ok (.ifCond .ne 5, 3) := by decide +kernel
theorem dX4_readTerm_129 : decode cX4_readTerm 129 = .ok (.iconst 0, 1) := by decide +kernel
theorem dX4_readTerm_130 : decode cX4_readTerm 130 = .ok (.ireturn, 1) := by decide +kernel
theorem dX4_readTerm_131 : decode cX4_readTerm 131 = .ok (.iload_n 3, 1) := by decide +kernel
theorem dX4_readTerm_132 : decode cX4_readTerm 132 = .ok (.ifCond .eq 10, 3) := by decide +kernel
theorem dX4_readTerm_135 : decode cX4_readTerm 135 = .ok (.aload_n 0, 1) := by decide +kernel
theorem dX4_readTerm_136 : decode cX4_readTerm 136 = .ok (.invokevirtual 88, 3) := by decide +kernel
theorem dX4_readTerm_139 : decode cX4_readTerm 139 = .ok (.goto 4, 3) := by decide +kernel
theorem dX4_readTerm_142 : decode cX4_readTerm 142 = .ok (.iconst 0, 1) := by decide +kernel
theorem dX4_readTerm_143 : decode cX4_readTerm 143 = .ok (.istore 5, 2) := by decide +kernel
theorem dX4_readTerm_145 : decode cX4_readTerm 145 = .ok (.iload_n 3, 1) := by decide +kernel
theorem dX4_readTerm_146 : decode cX4_readTerm 146 = .ok (.ifCond .eq 13, 3) := by decide +kernel
theorem dX4_readTerm_149 : decode cX4_readTerm 149 = .ok (.aload_n 0, 1) := by decide +kernel
theorem dX4_readTerm_150 : decode cX4_readTerm 150 = .ok (.iconst 4, 1) := by decide +kernel
theorem dX4_readTerm_151 : decode cX4_readTerm 151 = .ok (.invokevirtual 81, 3) := by decide +kernel
theorem dX4_readTerm_154 : decode cX4_readTerm 154 = .ok (.ifCond .ne 5, 3) := by decide +kernel
theorem dX4_readTerm_157 : decode cX4_readTerm 157 = .ok (.iconst 0, 1) := by decide +kernel
theorem dX4_readTerm_158 : decode cX4_readTerm 158 = .ok (.ireturn, 1) := by decide +kernel
theorem dX4_readTerm_159 : decode cX4_readTerm 159 = .ok (.aload_n 0, 1) := by decide +kernel
theorem dX4_readTerm_160 : decode cX4_readTerm 160 = .ok (.getfield 25, 3) := by decide +kernel
theorem dX4_readTerm_163 : decode cX4_readTerm 163 = .ok (.iload_n 1, 1) := by decide +kernel
theorem dX4_readTerm_164 : decode cX4_readTerm 164 = .ok (.iload 4, 2) := by decide +kernel
theorem dX4_readTerm_166 : decode cX4_readTerm 166 = .ok (.iload 5, 2) := by decide +kernel
theorem dX4_readTerm_168 : decode cX4_readTerm 168 = .ok (.invokestatic 108, 3) := by decide +kernel
theorem dX4_readTerm_171 : decode cX4_readTerm 171 = .ok (.invokevirtual 98, 3) := by decide +kernel
theorem dX4_readTerm_174 : decode cX4_readTerm 174 = .ok (.iconst 1, 1) := by decide +kernel
theorem dX4_readTerm_175 : decode cX4_readTerm 175 = .ok (.ireturn, 1) := by decide +kernel
theorem dX5_init_0 : decode cX5_init 0 = .ok (.aload_n 0, 1) := by decide +kernel
theorem dX5_init_1 : decode cX5_init 1 = .ok (.invokespecial 3, 3) := by decide +kernel
theorem dX5_init_4 : decode cX5_init 4 = .ok (.aload_n 0, 1) := by decide +kernel
theorem dX5_init_5 : decode cX5_init 5 = .ok (.sipush 512, 3) := by decide +kernel
theorem dX5_init_8 : decode cX5_init 8 = .ok (.newarray .int, 2) := by decide +kernel
theorem dX5_init_10 : decode cX5_init 10 = .ok (.putfield 11, 3) := by decide +kernel
theorem dX5_init_13 : decode cX5_init 13 = .ok (.aload_n 0, 1) := by decide +kernel
theorem dX5_init_14 : decode cX5_init 14 = .ok (.bipush 32, 2) := by decide +kernel
theorem dX5_init_16 : decode cX5_init 16 = .ok (.newarray .int, 2) := by decide +kernel
theorem dX5_init_18 : decode cX5_init 18 = .ok (.putfield 15, 3) := by decide +kernel
theorem dX5_init_21 : decode cX5_init 21 = .ok (.aload_n 0, 1) := by decide +kernel
theorem dX5_init_22 : decode cX5_init 22 = .ok (.bipush 12, 2) := by decide +kernel
theorem dX5_init_24 : decode cX5_init 24 = .ok (.newarray .int, 2) := by decide +kernel
theorem dX5_init_26 : decode cX5_init 26 = .ok (.putfield 18, 3) := by decide +kernel
theorem dX5_init_29 : decode cX5_init 29 = .ok (.aload_n 0, 1) := by decide +kernel
theorem dX5_init_30 : decode cX5_init 30 = .ok (.bipush 12, 2) := by decide +kernel
theorem dX5_init_32 : decode cX5_init 32 = .ok (.newarray .int, 2) := by decide +kernel
theorem dX5_init_34 : decode cX5_init 34 = .ok (.putfield 21, 3) := by decide +kernel
theorem dX5_init_37 : decode cX5_init 37 = .ok (.aload_n 0, 1) := by decide +kernel
theorem dX5_init_38 : decode cX5_init 38 = .ok (.bipush 12, 2) := by decide +kernel
theorem dX5_init_40 : decode cX5_init 40 = .ok (.newarray .int, 2) := by decide +kernel
theorem dX5_init_42 : decode cX5_init 42 = .ok (.putfield 24, 3) := by decide +kernel
theorem dX5_init_45 : decode cX5_init 45 = .ok (.aload_n 0, 1) := by decide +kernel
theorem dX5_init_46 : decode cX5_init 46 = .ok (.bipush 12, 2) := by decide +kernel
theorem dX5_init_48 : decode cX5_init 48 = .ok (.newarray .int, 2) := by decide +kernel
theorem dX5_init_50 : decode cX5_init 50 = .ok (.putfield 27, 3) := by decide +kernel
theorem dX5_init_53 : decode cX5_init 53 = .ok (.aload_n 0, 1) := by decide +kernel
theorem dX5_init_54 : decode cX5_init 54 = .ok (.bipush 12, 2) := by decide +kernel
theorem dX5_init_56 : decode cX5_init 56 = .ok (.newarray .int, 2) := by decide +kernel
theorem dX5_init_58 : decode cX5_init 58 = .ok (.putfield 30, 3) := by decide +kernel
theorem dX5_init_61 : decode cX5_init 61 = .ok (.return_, 1) := by decide +kernel
theorem dX5_clear_0 : decode cX5_clear 0 = .ok (.aload_n 0, 1) := by decide +kernel
theorem dX5_clear_1 : decode cX5_clear 1 = .ok (.iconst 0, 1) := by decide +kernel
theorem dX5_clear_2 : decode cX5_clear 2 = .ok (.putfield 33, 3) := by decide +kernel
theorem dX5_clear_5 : decode cX5_clear 5 = .ok (.aload_n 0, 1) := by decide +kernel
theorem dX5_clear_6 : decode cX5_clear 6 = .ok (.iconst 0, 1) := by decide +kernel
theorem dX5_clear_7 : decode cX5_clear 7 = .ok (.putfield 37, 3) := by decide +kernel
theorem dX5_clear_10 : decode cX5_clear 10 = .ok (.return_, 1) := by decide +kernel
theorem dX5_addStep_0 : decode cX5_addStep 0 = .ok (.aload_n 0, 1) := by decide +kernel
theorem dX5_addStep_1 : decode cX5_addStep 1 = .ok (.getfield 37, 3) := by decide +kernel
theorem dX5_addStep_4 : decode cX5_addStep 4 = .ok (.sipush 512, 3) := by decide +kernel
theorem dX5_addStep_7 : decode cX5_addStep 7 = .ok (.if_icmp .ge 28, 3) := by decide +kernel
theorem dX5_addStep_10 : decode cX5_addStep 10 = .ok (.aload_n 0, 1) := by decide +kernel
theorem dX5_addStep_11 : decode cX5_addStep 11 = .ok (.getfield 11, 3) := by decide +kernel
theorem dX5_addStep_14 : decode cX5_addStep 14 = .ok (.aload_n 0, 1) := by decide +kernel
theorem dX5_addStep_15 : decode cX5_addStep 15 = .ok (.getfield 37, 3) := by decide +kernel
theorem dX5_addStep_18 : decode cX5_addStep 18 = .ok (.iload_n 2, 1) := by decide +kernel
theorem dX5_addStep_19 : decode cX5_addStep 19 = .ok (.bipush 6, 2) := by decide +kernel
theorem dX5_addStep_21 : decode cX5_addStep 21 = .ok (.ishl, 1) := by decide +kernel
theorem dX5_addStep_22 : decode cX5_addStep 22 = .ok (.iload_n 1, 1) := by decide +kernel
theorem dX5_addStep_23 : decode cX5_addStep 23 = .ok (.ior, 1) := by decide +kernel
theorem dX5_addStep_24 : decode cX5_addStep 24 = .ok (.iastore, 1) := by decide +kernel
theorem dX5_addStep_25 : decode cX5_addStep 25 = .ok (.aload_n 0, 1) := by decide +kernel
theorem dX5_addStep_26 : decode cX5_addStep 26 = .ok (.dup, 1) := by decide +kernel
theorem dX5_addStep_27 : decode cX5_addStep 27 = .ok (.getfield 37, 3) := by decide +kernel
theorem dX5_addStep_30 : decode cX5_addStep 30 = .ok (.iconst 1, 1) := by decide +kernel
theorem dX5_addStep_31 : decode cX5_addStep 31 = .ok (.iadd, 1) := by decide +kernel
theorem dX5_addStep_32 : decode cX5_addStep 32 = .ok (.putfield 37, 3) := by decide +kernel
theorem dX5_addStep_35 : decode cX5_addStep 35 = .ok (.return_, 1) := by decide +kernel
theorem dX5_addLine_0 : decode cX5_addLine 0 = .ok (.aload_n 0, 1) := by decide +kernel
theorem dX5_addLine_1 : decode cX5_addLine 1 = .ok (.getfield 33, 3) := by decide +kernel
theorem dX5_addLine_4 : decode cX5_addLine 4 = .ok (.bipush 12, 2) := by decide +kernel
theorem dX5_addLine_6 : decode cX5_addLine 6 = .ok (.if_icmp .lt 4, 3) := by decide +kernel
theorem dX5_addLine_9 : decode cX5_addLine 9 = .ok (.return_, 1) := by decide +kernel
theorem dX5_addLine_10 : decode cX5_addLine 10 = .ok (.aload_n 0, 1) := by decide +kernel
theorem dX5_addLine_11 : decode cX5_addLine 11 = .ok (.getfield 18, 3) := by decide +kernel
theorem dX5_addLine_14 : decode cX5_addLine 14 = .ok (.aload_n 0, 1) := by decide +kernel
theorem dX5_addLine_15 : decode cX5_addLine 15 = .ok (.getfield 33, 3) := by decide +kernel
theorem dX5_addLine_18 : decode cX5_addLine 18 = .ok (.aload_n 0, 1) := by decide +kernel
theorem dX5_addLine_19 : decode cX5_addLine 19 = .ok (.getfield 37, 3) := by decide +kernel
theorem dX5_addLine_22 : decode cX5_addLine 22 = .ok (.iastore, 1) := by decide +kernel
theorem dX5_addLine_23 : decode cX5_addLine 23 = .ok (.aload_n 0, 1) := by decide +kernel
end
section
theorem dX5_addLine_24 : decode cX5_addLine 24 = .ok (.getfield 21, 3) := by decide +kernel
theorem dX5_addLine_27 : decode cX5_addLine 27 = .ok (.aload_n 0, 1) := by decide +kernel
theorem dX5_addLine_28 : decode cX5_addLine 28 = .ok (.getfield 33, 3) := by decide +kernel
theorem dX5_addLine_31 : decode cX5_addLine 31 = .ok (.iload_n 1, 1) := by decide +kernel
theorem dX5_addLine_32 : decode cX5_addLine 32 = .ok (.iastore, 1) := by decide +kernel
theorem dX5_addLine_33 : decode cX5_addLine 33 = .ok (.aload_n 0, 1) := by decide +kernel
theorem dX5_addLine_34 : decode cX5_addLine 34 = .ok (.getfield 24, 3) := by decide +kernel
theorem dX5_addLine_37 : decode cX5_addLine 37 = .ok (.aload_n 0, 1) := by decide +kernel
theorem dX5_addLine_38 : decode cX5_addLine 38 = .ok (.getfield 33, 3) := by decide +kernel
theorem dX5_addLine_41 : decode cX5_addLine 41 = .ok (.iload_n 2, 1) := by decide +kernel
theorem dX5_addLine_42 : decode cX5_addLine 42 = .ok (.iastore, 1) := by decide +kernel
theorem dX5_addLine_43 : decode cX5_addLine 43 = .ok (.aload_n 0, 1) := by decide +kernel
theorem dX5_addLine_44 : decode cX5_addLine 44 = .ok (.getfield 27, 3) := by decide +kernel
theorem dX5_addLine_47 : decode cX5_addLine 47 = .ok (.aload_n 0, 1) := by decide +kernel
theorem dX5_addLine_48 : decode cX5_addLine 48 = .ok (.getfield 33, 3) := by decide +kernel
theorem dX5_addLine_51 : decode cX5_addLine 51 = .ok (.iload_n 3, 1) := by decide +kernel
theorem dX5_addLine_52 : decode cX5_addLine 52 = .ok (.iastore, 1) := by decide +kernel
theorem dX5_addLine_53 : decode cX5_addLine 53 = .ok (.aload_n 0, 1) := by decide +kernel
theorem dX5_addLine_54 : decode cX5_addLine 54 = .ok (.getfield 30, 3) := by decide +kernel
theorem dX5_addLine_57 : decode cX5_addLine 57 = .ok (.aload_n 0, 1) := by decide +kernel
theorem dX5_addLine_58 : decode cX5_addLine 58 = .ok (.getfield 33, 3) := by decide +kernel
theorem dX5_addLine_61 : decode cX5_addLine 61 = .ok (.iload 4, 2) := by decide +kernel
theorem dX5_addLine_63 : decode cX5_addLine 63 = .ok (.iastore, 1) := by decide +kernel
theorem dX5_addLine_64 : decode cX5_addLine 64 = .ok (.aload_n 0, 1) := by decide +kernel
theorem dX5_addLine_65 : decode cX5_addLine 65 = .ok (.dup, 1) := by decide +kernel
theorem dX5_addLine_66 : decode cX5_addLine 66 = .ok (.getfield 33, 3) := by decide +kernel
theorem dX5_addLine_69 : decode cX5_addLine 69 = .ok (.iconst 1, 1) := by decide +kernel
theorem dX5_addLine_70 : decode cX5_addLine 70 = .ok (.iadd, 1) := by decide +kernel
theorem dX5_addLine_71 : decode cX5_addLine 71 = .ok (.putfield 33, 3) := by decide +kernel
theorem dX5_addLine_74 : decode cX5_addLine 74 = .ok (.return_, 1) := by decide +kernel
theorem dX5_holds_0 : decode cX5_holds 0 = .ok (.iconst 0, 1) := by decide +kernel
theorem dX5_holds_1 : decode cX5_holds 1 = .ok (.istore_n 3, 1) := by decide +kernel
theorem dX5_holds_2 : decode cX5_holds 2 = .ok (.iload_n 1, 1) := by decide +kernel
theorem dX5_holds_3 : decode cX5_holds 3 = .ok (.ifCond .le 14, 3) := by decide +kernel
theorem dX5_holds_6 : decode cX5_holds 6 = .ok (.aload_n 0, 1) := by decide +kernel
theorem dX5_holds_7 : decode cX5_holds 7 = .ok (.getfield 18, 3) := by decide +kernel
theorem dX5_holds_10 : decode cX5_holds 10 = .ok (.iload_n 1, 1) := by decide +kernel
theorem dX5_holds_11 : decode cX5_holds 11 = .ok (.iconst 1, 1) := by decide +kernel
theorem dX5_holds_12 : decode cX5_holds 12 = .ok (.isub, 1) := by decide +kernel
theorem dX5_holds_13 : decode cX5_holds 13 = .ok (.iaload, 1) := by decide +kernel
theorem dX5_holds_14 : decode cX5_holds 14 = .ok (.goto 4, 3) := by decide +kernel
theorem dX5_holds_17 : decode cX5_holds 17 = .ok (.iconst 0, 1) := by decide +kernel
theorem dX5_holds_18 : decode cX5_holds 18 = .ok (.istore 4, 2) := by decide +kernel
theorem dX5_holds_20 : decode cX5_holds 20 = .ok (.iload 4, 2) := by decide +kernel
theorem dX5_holds_22 : decode cX5_holds 22 = .ok (.istore 5, 2) := by decide +kernel
theorem dX5_holds_24 : decode cX5_holds 24 = .ok (.iload 5, 2) := by decide +kernel
theorem dX5_holds_26 : decode cX5_holds 26 = .ok (.aload_n 0, 1) := by decide +kernel
theorem dX5_holds_27 : decode cX5_holds 27 = .ok (.getfield 18, 3) := by decide +kernel
theorem dX5_holds_30 : decode cX5_holds 30 = .ok (.iload_n 1, 1) := by decide +kernel
theorem dX5_holds_31 : decode cX5_holds 31 = .ok (.iaload, 1) := by decide +kernel
theorem dX5_holds_32 : decode cX5_holds 32 = .ok (.if_icmp .ge 134, 3) := by decide +kernel
theorem dX5_holds_35 : decode cX5_holds 35 = .ok (.aload_n 0, 1) := by decide +kernel
theorem dX5_holds_36 : decode cX5_holds 36 = .ok (.getfield 11, 3) := by decide +kernel
theorem dX5_holds_39 : decode cX5_holds 39 = .ok (.iload 5, 2) := by decide +kernel
theorem dX5_holds_41 : decode cX5_holds 41 = .ok (.iaload, 1) := by decide +kernel
theorem dX5_holds_42 : decode cX5_holds 42 = .ok (.bipush 63, 2) := by decide +kernel
theorem dX5_holds_44 : decode cX5_holds 44 = .ok (.iand, 1) := by decide +kernel
theorem dX5_holds_45 : decode cX5_holds 45 = .ok (.istore 6, 2) := by decide +kernel
theorem dX5_holds_47 : decode cX5_holds 47 = .ok (.aload_n 0, 1) := by decide +kernel
theorem dX5_holds_48 : decode cX5_holds 48 = .ok (.getfield 11, 3) := by decide +kernel
theorem dX5_holds_51 : decode cX5_holds 51 = .ok (.iload 5, 2) := by decide +kernel
theorem dX5_holds_53 : decode cX5_holds 53 = .ok (.iaload, 1) := by decide +kernel
theorem dX5_holds_54 : decode cX5_holds 54 = .ok (.bipush 6, 2) := by decide +kernel
theorem dX5_holds_56 : decode cX5_holds 56 = .ok (.ishr, 1) := by decide +kernel
theorem dX5_holds_57 : decode cX5_holds 57 = .ok (.istore 7, 2) := by decide +kernel
theorem dX5_holds_59 : decode cX5_holds 59 = .ok (.iload 6, 2) := by decide +kernel
theorem dX5_holds_61 : decode cX5_holds 61 = .ok (.invokestatic 40, 3) := by decide +kernel
theorem dX5_holds_64 : decode cX5_holds 64 = .ok (.ifCond .eq 29, 3) := by decide +kernel
theorem dX5_holds_67 : decode cX5_holds 67 = .ok (.iload_n 3, 1) := by decide +kernel
theorem dX5_holds_68 : decode cX5_holds 68 = .ok (.bipush 32, 2) := by decide +kernel
theorem dX5_holds_70 : decode cX5_holds 70 = .ok (.if_icmp .ge 90, 3) := by decide +kernel
theorem dX5_holds_73 : decode cX5_holds 73 = .ok (.aload_n 0, 1) := by decide +kernel
theorem dX5_holds_74 : decode cX5_holds 74 = .ok (.getfield 15, 3) := by decide +kernel
theorem dX5_holds_77 : decode cX5_holds 77 = .ok (.iload_n 3, 1) := by decide +kernel
theorem dX5_holds_78 : decode cX5_holds 78 = .ok (.iload 6, 2) := by decide +kernel
theorem dX5_holds_80 : decode cX5_holds 80 = .ok (.iload 7, 2) := by decide +kernel
theorem dX5_holds_82 : decode cX5_holds 82 = .ok (.aload_n 2, 1) := by decide +kernel
theorem dX5_holds_83 : decode cX5_holds 83 = .ok (.invokestatic 44, 3) := by decide +kernel
theorem dX5_holds_86 : decode cX5_holds 86 = .ok (.iastore, 1) := by decide +kernel
theorem dX5_holds_87 : decode cX5_holds 87 = .ok (.iinc 3 1, 3) := by decide +kernel
theorem dX5_holds_90 : decode cX5_holds 90 = .ok (.goto 70, 3) := by decide +kernel
theorem dX5_holds_93 : decode cX5_holds 93 = .ok (.iload 6, 2) := by decide +kernel
theorem dX5_holds_95 : decode cX5_holds 95 = .ok (.bipush 12, 2) := by decide +kernel
theorem dX5_holds_97 : decode cX5_holds 97 = .ok (.if_icmp .ne 28, 3) := by decide +kernel
theorem dX5_holds_100 : decode cX5_holds 100 = .ok (.iload_n 3, 1) := by decide +kernel
theorem dX5_holds_101 : decode cX5_holds 101 = .ok (.ifCond .le 59, 3) := by decide +kernel
theorem dX5_holds_104 : decode cX5_holds 104 = .ok (.aload_n 0, 1) := by decide +kernel
theorem dX5_holds_105 : decode cX5_holds 105 = .ok (.getfield 15, 3) := by decide +kernel
theorem dX5_holds_108 : decode cX5_holds 108 = .ok (.iload_n 3, 1) := by decide +kernel
theorem dX5_holds_109 : decode cX5_holds 109 = .ok (.iconst 1, 1) := by decide +kernel
theorem dX5_holds_110 : decode cX5_holds 110 = .ok (.isub, 1) := by decide +kernel
theorem dX5_holds_111 : decode cX5_holds 111 = .ok (.iconst 1, 1) := by decide +kernel
theorem dX5_holds_112 : decode cX5_holds 112 = .ok (.aload_n 0, 1) := by decide +kernel
theorem dX5_holds_113 : decode cX5_holds 113 = .ok (.getfield 15, 3) := by decide +kernel
theorem dX5_holds_116 : decode cX5_holds 116 = .ok (.iload_n 3, 1) := by decide +kernel
theorem dX5_holds_117 : decode cX5_holds 117 = .ok (.iconst 1, 1) := by decide +kernel
theorem dX5_holds_118 : decode cX5_holds 118 = .ok (.isub, 1) := by decide +kernel
theorem dX5_holds_119 : decode cX5_holds 119 = .ok (.iaload, 1) := by decide +kernel
theorem dX5_holds_120 : decode cX5_holds 120 = .ok (.isub, 1) := by decide +kernel
theorem dX5_holds_121 : decode cX5_holds 121 = .ok (.iastore, 1) := by decide +kernel
theorem dX5_holds_122 : decode cX5_holds 122 = .ok (.goto 38, 3) := by decide +kernel
theorem dX5_holds_125 : decode cX5_holds 125 = .ok (.iload_n 3, 1) := by decide +kernel
theorem dX5_holds_126 : decode cX5_holds 126 = .ok (.iconst 1, 1) := by decide +kernel
theorem dX5_holds_127 : decode cX5_holds 127 = .ok (.if_icmp .le 33, 3) := by decide +kernel
theorem dX5_holds_130 : decode cX5_holds 130 = .ok (.iinc 3 (-1), 3) := by decide +kernel
theorem dX5_holds_133 : decode cX5_holds 133 = .ok (.aload_n 0, 1) := by decide +kernel
theorem dX5_holds_134 : decode cX5_holds 134 = .ok (.getfield 15, 3) := by decide +kernel
theorem dX5_holds_137 : decode cX5_holds 137 = .ok (.iload_n 3, 1) := by decide +kernel
theorem dX5_holds_138 : decode cX5_holds 138 = .ok (.iconst 1, 1) := by decide +kernel
theorem dX5_holds_139 : decode cX5_holds 139 = .ok (.isub, 1) := by decide +kernel
theorem dX5_holds_140 : decode cX5_holds 140 = .ok (.iload 6, 2) := by decide +kernel
theorem dX5_holds_142 : decode cX5_holds 142 = .ok (.aload_n 0, 1) := by decide +kernel
theorem dX5_holds_143 : decode cX5_holds 143 = .ok (.getfield 15, 3) := by decide +kernel
theorem dX5_holds_146 : decode cX5_holds 146 = .ok (.iload_n 3, 1) := by decide +kernel
theorem dX5_holds_147 : decode cX5_holds 147 = .ok (.iconst 1, 1) := by decide +kernel
theorem dX5_holds_148 : decode cX5_holds 148 = .ok (.isub, 1) := by decide +kernel
theorem dX5_holds_149 : decode cX5_holds 149 = .ok (.iaload, 1) := by decide +kernel
theorem dX5_holds_150 : decode cX5_holds 150 = .ok (.aload_n 0, 1) := by decide +kernel
theorem dX5_holds_151 : decode cX5_holds 151 = .ok (.getfield 15, 3) := by decide +kernel
theorem dX5_holds_154 : decode cX5_holds 154 = .ok (.iload_n 3, 1) := by decide +kernel
theorem dX5_holds_155 : decode cX5_holds 155 = .ok (.iaload, 1) := by decide +kernel
theorem dX5_holds_156 : decode cX5_holds 156 = .ok (.invokestatic 48, 3) := by decide +kernel
theorem dX5_holds_159 : decode cX5_holds 159 = .ok (.iastore, 1) := by decide +kernel
theorem dX5_holds_160 : decode cX5_holds 160 = .ok (.iinc 5 1, 3) := by decide +kernel
theorem dX5_holds_163 : decode cX5_holds 163 = .ok (.goto (-139), 3) := by decide +kernel
theorem dX5_holds_166 : decode cX5_holds 166 = .ok (.iload_n 3, 1) := by decide +kernel
theorem dX5_holds_167 : decode cX5_holds 167 = .ok (.ifCond .eq 12, 3) := by decide +kernel
theorem dX5_holds_170 : decode cX5_holds 170 = .ok (.aload_n 0, 1) := by decide +kernel
theorem dX5_holds_171 : decode cX5_holds 171 = .ok (.getfield 15, 3) := by decide +kernel
theorem dX5_holds_174 : decode cX5_holds 174 = .ok (.iconst 0, 1) := by decide +kernel
theorem dX5_holds_175 : decode cX5_holds 175 = .ok (.iaload, 1) := by decide +kernel
theorem dX5_holds_176 : decode cX5_holds 176 = .ok (.ifCond .eq 7, 3) := by decide +kernel
theorem dX5_holds_179 : decode cX5_holds 179 = .ok (.iconst 1, 1) := by decide +kernel
theorem dX5_holds_180 : decode cX5_holds 180 = .ok (.goto 4, 3) := by decide +kernel
theorem dX5_holds_183 : decode cX5_holds 183 = .ok (.iconst 0, 1) := by decide +kernel
theorem dX5_holds_184 : decode cX5_holds 184 = .ok (.ireturn, 1) := by decide +kernel
theorem dX5_isTerm_0 : decode cX5_isTerm 0 = .ok (.iload_n 0, 1) := by decide +kernel
theorem dX5_isTerm_1 : decode cX5_isTerm 1 = .ok (.iconst 2, 1) := by decide +kernel
theorem dX5_isTerm_2 : decode cX5_isTerm 2 = .ok (.if_icmp .eq 14, 3) := by decide +kernel
theorem dX5_isTerm_5 : decode cX5_isTerm 5 = .ok (.iload_n 0, 1) := by decide +kernel
theorem dX5_isTerm_6 : decode cX5_isTerm 6 = .ok (.bipush 13, 2) := by decide +kernel
theorem dX5_isTerm_8 : decode cX5_isTerm 8 = .ok (.bipush 17, 2) := by decide +kernel
theorem dX5_isTerm_10 : decode cX5_isTerm 10 = .ok (.invokestatic 52, 3) := by decide +kernel
theorem dX5_isTerm_13 : decode cX5_isTerm 13 = .ok (.ifCond .eq 7, 3) := by decide +kernel
theorem dX5_isTerm_16 : decode cX5_isTerm 16 = .ok (.iconst 1, 1) := by decide +kernel
theorem dX5_isTerm_17 : decode cX5_isTerm 17 = .ok (.goto 4, 3) := by decide +kernel
theorem dX5_isTerm_20 : decode cX5_isTerm 20 = .ok (.iconst 0, 1) := by decide +kernel
theorem dX5_isTerm_21 : decode cX5_isTerm 21 = .ok (.ireturn, 1) := by decide +kernel
theorem dX5_termValue_0 : decode cX5_termValue 0 = .ok (.iload_n 0, 1) := by decide +kernel
theorem dX5_termValue_1 : decode cX5_termValue 1 = .ok (.iconst 2, 1) := by decide +kernel
theorem dX5_termValue_2 : decode cX5_termValue 2 = .ok (.if_icmp .ne 5, 3) := by decide +kernel
theorem dX5_termValue_5 : decode cX5_termValue 5 = .ok (.iload_n 1, 1) := by decide +kernel
theorem dX5_termValue_6 : decode cX5_termValue 6 = .ok (.ireturn, 1) := by decide +kernel
theorem dX5_termValue_7 : decode cX5_termValue 7 = .ok (.iload_n 0, 1) := by decide +kernel
theorem dX5_termValue_8 : decode cX5_termValue 8 = .ok (.bipush 13, 2) := by decide +kernel
theorem dX5_termValue_10 : decode cX5_termValue 10 = .ok (.if_icmp .ne 8, 3) := by decide +kernel
theorem dX5_termValue_13 : decode cX5_termValue 13 = .ok (.aload_n 2, 1) := by decide +kernel
theorem dX5_termValue_14 : decode cX5_termValue 14 = .ok (.getfield 56, 3) := by decide +kernel
theorem dX5_termValue_17 : decode cX5_termValue 17 = .ok (.ireturn, 1) := by decide +kernel
theorem dX5_termValue_18 : decode cX5_termValue 18 = .ok (.iload_n 1, 1) := by decide +kernel
theorem dX5_termValue_19 : decode cX5_termValue 19 = .ok (.iconst 3, 1) := by decide +kernel
theorem dX5_termValue_20 : decode cX5_termValue 20 = .ok (.idiv, 1) := by decide +kernel
theorem dX5_termValue_21 : decode cX5_termValue 21 = .ok (.istore_n 3, 1) := by decide +kernel
theorem dX5_termValue_22 : decode cX5_termValue 22 = .ok (.iload_n 1, 1) := by decide +kernel
theorem dX5_termValue_23 : decode cX5_termValue 23 = .ok (.iconst 3, 1) := by decide +kernel
theorem dX5_termValue_24 : decode cX5_termValue 24 = .ok (.irem, 1) := by decide +kernel
theorem dX5_termValue_25 : decode cX5_termValue 25 = .ok (.istore 4, 2) := by decide +kernel
theorem dX5_termValue_27 : decode cX5_termValue 27 = .ok (.aload_n 2, 1) := by decide +kernel
theorem dX5_termValue_28 : decode cX5_termValue 28 = .ok (.iload_n 3, 1) := by decide +kernel
theorem dX5_termValue_29 : decode cX5_termValue 29 = .ok (.invokevirtual 61, 3) := by decide +kernel
theorem dX5_termValue_32 : decode cX5_termValue 32 = .ok (.ifCond .eq 11, 3) := by decide +kernel
theorem dX5_termValue_35 : decode cX5_termValue 35 = .ok (.iload 4, 2) := by decide +kernel
theorem dX5_termValue_37 : decode cX5_termValue 37 = .ok (.invokestatic 64, 3) := by decide +kernel
theorem dX5_termValue_40 : decode cX5_termValue 40 = .ok (.ifCond .ne 5, 3) := by decide +kernel
theorem dX5_termValue_43 : decode cX5_termValue 43 = .ok (.iconst 0, 1) := by decide +kernel
theorem dX5_termValue_44 : decode cX5_termValue 44 = .ok (.ireturn, 1) := by decide +kernel
theorem dX5_termValue_45 : decode cX5_termValue 45 = .ok (.aload_n 2, 1) := by decide +kernel
theorem dX5_termValue_46 : decode cX5_termValue 46 = .ok (.getfield 67, 3) := by decide +kernel
theorem dX5_termValue_49 : decode cX5_termValue 49 = .ok (.iload_n 3, 1) := by decide +kernel
theorem dX5_termValue_50 : decode cX5_termValue 50 = .ok (.aaload, 1) := by decide +kernel
theorem dX5_termValue_51 : decode cX5_termValue 51 = .ok (.astore 5, 2) := by decide +kernel
theorem dX5_termValue_53 : decode cX5_termValue 53 = .ok (.iload_n 0, 1) := by decide +kernel
theorem dX5_termValue_54 : decode cX5_termValue 54 = .ok (.tableswitch 49 14 16 #[26, 32, 41], 26) := by decide +kernel
theorem dX5_termValue_80 : decode cX5_termValue 80 = .ok (.aload 5, 2) := by decide +kernel
theorem dX5_termValue_82 : decode cX5_termValue 82 = .ok (.getfield 71, 3) := by decide +kernel
theorem dX5_termValue_85 : decode cX5_termValue 85 = .ok (.ireturn, 1) := by decide +kernel
theorem dX5_termValue_86 : decode cX5_termValue 86 = .ok (.aload 5, 2) := by decide +kernel
theorem dX5_termValue_88 : decode cX5_termValue 88 = .ok (.getfield 76, 3) := by decide +kernel
theorem dX5_termValue_91 : decode cX5_termValue 91 = .ok (.iload 4, 2) := by decide +kernel
theorem dX5_termValue_93 : decode cX5_termValue 93 = .ok (.iaload, 1) := by decide +kernel
theorem dX5_termValue_94 : decode cX5_termValue 94 = .ok (.ireturn, 1) := by decide +kernel
theorem dX5_termValue_95 : decode cX5_termValue 95 = .ok (.aload 5, 2) := by decide +kernel
theorem dX5_termValue_97 : decode cX5_termValue 97 = .ok (.iload 4, 2) := by decide +kernel
theorem dX5_termValue_99 : decode cX5_termValue 99 = .ok (.invokevirtual 79, 3) := by decide +kernel
theorem dX5_termValue_102 : decode cX5_termValue 102 = .ok (.ireturn, 1) := by decide +kernel
theorem dX5_termValue_103 : decode cX5_termValue 103 = .ok (.aload 5, 2) := by decide +kernel
theorem dX5_termValue_105 : decode cX5_termValue 105 = .ok (.invokevirtual 83, 3) := by decide +kernel
theorem dX5_termValue_108 : decode cX5_termValue 108 = .ok (.ireturn, 1) := by decide +kernel
theorem dX5_join_0 : decode cX5_join 0 = .ok (.iload_n 0, 1) := by decide +kernel
theorem dX5_join_1 : decode cX5_join 1 = .ok (.lookupswitch 104 #[(11, 100), (43, 59), (45, 63), (60, 67), (61, 89), (62, 78)], 59) := by decide +kernel
theorem dX5_join_60 : decode cX5_join 60 = .ok (.iload_n 1, 1) := by decide +kernel
theorem dX5_join_61 : decode cX5_join 61 = .ok (.iload_n 2, 1) := by decide +kernel
theorem dX5_join_62 : decode cX5_join 62 = .ok (.iadd, 1) := by decide +kernel
theorem dX5_join_63 : decode cX5_join 63 = .ok (.ireturn, 1) := by decide +kernel
theorem dX5_join_64 : decode cX5_join 64 = .ok (.iload_n 1, 1) := by decide +kernel
theorem dX5_join_65 : decode cX5_join 65 = .ok (.iload_n 2, 1) := by decide +kernel
theorem dX5_join_66 : decode cX5_join 66 = .ok (.isub, 1) := by decide +kernel
theorem dX5_join_67 : decode cX5_join 67 = .ok (.ireturn, 1) := by decide +kernel
theorem dX5_join_68 : decode cX5_join 68 = .ok (.iload_n 1, 1) := by decide +kernel
theorem dX5_join_69 : decode cX5_join 69 = .ok (.iload_n 2, 1) := by decide +kernel
theorem dX5_join_70 : decode cX5_join 70 = .ok (.if_icmp .ge 7, 3) := by decide +kernel
theorem dX5_join_73 : decode cX5_join 73 = .ok (.iconst 1, 1) := by decide +kernel
theorem dX5_join_74 : decode cX5_join 74 = .ok (.goto 4, 3) := by decide +kernel
theorem dX5_join_77 : decode cX5_join 77 = .ok (.iconst 0, 1) := by decide +kernel
theorem dX5_join_78 : decode cX5_join 78 = .ok (.ireturn, 1) := by decide +kernel
theorem dX5_join_79 : decode cX5_join 79 = .ok (.iload_n 1, 1) := by decide +kernel
theorem dX5_join_80 : decode cX5_join 80 = .ok (.iload_n 2, 1) := by decide +kernel
theorem dX5_join_81 : decode cX5_join 81 = .ok (.if_icmp .le 7, 3) := by decide +kernel
theorem dX5_join_84 : decode cX5_join 84 = .ok (.iconst 1, 1) := by decide +kernel
theorem dX5_join_85 : decode cX5_join 85 = .ok (.goto 4, 3) := by decide +kernel
theorem dX5_join_88 : decode cX5_join 88 = .ok (.iconst 0, 1) := by decide +kernel
theorem dX5_join_89 : decode cX5_join 89 = .ok (.ireturn, 1) := by decide +kernel
theorem dX5_join_90 : decode cX5_join 90 = .ok (.iload_n 1, 1) := by decide +kernel
theorem dX5_join_91 : decode cX5_join 91 = .ok (.iload_n 2, 1) := by decide +kernel
theorem dX5_join_92 : decode cX5_join 92 = .ok (.if_icmp .ne 7, 3) := by decide +kernel
theorem dX5_join_95 : decode cX5_join 95 = .ok (.iconst 1, 1) := by decide +kernel
theorem dX5_join_96 : decode cX5_join 96 = .ok (.goto 4, 3) := by decide +kernel
theorem dX5_join_99 : decode cX5_join 99 = .ok (.iconst 0, 1) := by decide +kernel
theorem dX5_join_100 : decode cX5_join 100 = .ok (.ireturn, 1) := by decide +kernel
theorem dX5_join_101 : decode cX5_join 101 = .ok (.iload_n 1, 1) := by decide +kernel
theorem dX5_join_102 : decode cX5_join 102 = .ok (.iload_n 2, 1) := by decide +kernel
theorem dX5_join_103 : decode cX5_join 103 = .ok (.iand, 1) := by decide +kernel
theorem dX5_join_104 : decode cX5_join 104 = .ok (.ireturn, 1) := by decide +kernel
theorem dX5_join_105 : decode cX5_join 105 = .ok (.iload_n 1, 1) := by decide +kernel
theorem dX5_join_106 : decode cX5_join 106 = .ok (.iload_n 2, 1) := by decide +kernel
theorem dX5_join_107 : decode cX5_join 107 = .ok (.ior, 1) := by decide +kernel
theorem dX5_join_108 : decode cX5_join 108 = .ok (.ireturn, 1) := by decide +kernel
theorem dX6_init_0 : decode cX6_init 0 = .ok (.aload_n 0, 1) := by decide +kernel
theorem dX6_init_1 : decode cX6_init 1 = .ok (.invokespecial 3, 3) := by decide +kernel
theorem dX6_init_4 : decode cX6_init 4 = .ok (.aload_n 0, 1) := by decide +kernel
theorem dX6_init_5 : decode cX6_init 5 = .ok (.bipush 10, 2) := by decide +kernel
theorem dX6_init_7 : decode cX6_init 7 = .ok (.newarray .int, 2) := by decide +kernel
theorem dX6_init_9 : decode cX6_init 9 = .ok (.putfield 9, 3) := by decide +kernel
theorem dX6_init_12 : decode cX6_init 12 = .ok (.aload_n 0, 1) := by decide +kernel
theorem dX6_init_13 : decode cX6_init 13 = .ok (.bipush 10, 2) := by decide +kernel
theorem dX6_init_15 : decode cX6_init 15 = .ok (.newarray .int, 2) := by decide +kernel
theorem dX6_init_17 : decode cX6_init 17 = .ok (.putfield 15, 3) := by decide +kernel
theorem dX6_init_20 : decode cX6_init 20 = .ok (.aload_n 0, 1) := by decide +kernel
theorem dX6_init_21 : decode cX6_init 21 = .ok (.bipush 10, 2) := by decide +kernel
theorem dX6_init_23 : decode cX6_init 23 = .ok (.newarray .int, 2) := by decide +kernel
theorem dX6_init_25 : decode cX6_init 25 = .ok (.putfield 18, 3) := by decide +kernel
theorem dX6_init_28 : decode cX6_init 28 = .ok (.aload_n 0, 1) := by decide +kernel
theorem dX6_init_29 : decode cX6_init 29 = .ok (.bipush 10, 2) := by decide +kernel
theorem dX6_init_31 : decode cX6_init 31 = .ok (.newarray .int, 2) := by decide +kernel
theorem dX6_init_33 : decode cX6_init 33 = .ok (.putfield 21, 3) := by decide +kernel
theorem dX6_init_36 : decode cX6_init 36 = .ok (.aload_n 0, 1) := by decide +kernel
theorem dX6_init_37 : decode cX6_init 37 = .ok (.bipush 10, 2) := by decide +kernel
theorem dX6_init_39 : decode cX6_init 39 = .ok (.newarray .int, 2) := by decide +kernel
theorem dX6_init_41 : decode cX6_init 41 = .ok (.putfield 24, 3) := by decide +kernel
theorem dX6_init_44 : decode cX6_init 44 = .ok (.aload_n 0, 1) := by decide +kernel
theorem dX6_init_45 : decode cX6_init 45 = .ok (.bipush 10, 2) := by decide +kernel
theorem dX6_init_47 : decode cX6_init 47 = .ok (.newarray .int, 2) := by decide +kernel
theorem dX6_init_49 : decode cX6_init 49 = .ok (.putfield 27, 3) := by decide +kernel
theorem dX6_init_52 : decode cX6_init 52 = .ok (.aload_n 0, 1) := by decide +kernel
theorem dX6_init_53 : decode cX6_init 53 = .ok (.bipush 80, 2) := by decide +kernel
theorem dX6_init_55 : decode cX6_init 55 = .ok (.newarray .int, 2) := by decide +kernel
theorem dX6_init_57 : decode cX6_init 57 = .ok (.putfield 30, 3) := by decide +kernel
theorem dX6_init_60 : decode cX6_init 60 = .ok (.aload_n 0, 1) := by decide +kernel
theorem dX6_init_61 : decode cX6_init 61 = .ok (.bipush 80, 2) := by decide +kernel
theorem dX6_init_63 : decode cX6_init 63 = .ok (.newarray .int, 2) := by decide +kernel
theorem dX6_init_65 : decode cX6_init 65 = .ok (.putfield 33, 3) := by decide +kernel
theorem dX6_init_68 : decode cX6_init 68 = .ok (.aload_n 0, 1) := by decide +kernel
theorem dX6_init_69 : decode cX6_init 69 = .ok (.bipush 80, 2) := by decide +kernel
theorem dX6_init_71 : decode cX6_init 71 = .ok (.newarray .int, 2) := by decide +kernel
theorem dX6_init_73 : decode cX6_init 73 = .ok (.putfield 36, 3) := by decide +kernel
theorem dX6_init_76 : decode cX6_init 76 = .ok (.aload_n 0, 1) := by decide +kernel
theorem dX6_init_77 : decode cX6_init 77 = .ok (.bipush 80, 2) := by decide +kernel
theorem dX6_init_79 : decode cX6_init 79 = .ok (.newarray .int, 2) := by decide +kernel
theorem dX6_init_81 : decode cX6_init 81 = .ok (.putfield 39, 3) := by decide +kernel
theorem dX6_init_84 : decode cX6_init 84 = .ok (.aload_n 0, 1) := by decide +kernel
theorem dX6_init_85 : decode cX6_init 85 = .ok (.bipush 80, 2) := by decide +kernel
theorem dX6_init_87 : decode cX6_init 87 = .ok (.newarray .int, 2) := by decide +kernel
theorem dX6_init_89 : decode cX6_init 89 = .ok (.putfield 42, 3) := by decide +kernel
theorem dX6_init_92 : decode cX6_init 92 = .ok (.aload_n 0, 1) := by decide +kernel
theorem dX6_init_93 : decode cX6_init 93 = .ok (.sipush 800, 3) := by decide +kernel
theorem dX6_init_96 : decode cX6_init 96 = .ok (.newarray .int, 2) := by decide +kernel
theorem dX6_init_98 : decode cX6_init 98 = .ok (.putfield 45, 3) := by decide +kernel
theorem dX6_init_101 : decode cX6_init 101 = .ok (.aload_n 0, 1) := by decide +kernel
theorem dX6_init_102 : decode cX6_init 102 = .ok (.sipush 800, 3) := by decide +kernel
theorem dX6_init_105 : decode cX6_init 105 = .ok (.newarray .int, 2) := by decide +kernel
theorem dX6_init_107 : decode cX6_init 107 = .ok (.putfield 48, 3) := by decide +kernel
theorem dX6_init_110 : decode cX6_init 110 = .ok (.return_, 1) := by decide +kernel
theorem dX6_plan_0 : decode cX6_plan 0 = .ok (.aload_n 0, 1) := by decide +kernel
theorem dX6_plan_1 : decode cX6_plan 1 = .ok (.iconst 0, 1) := by decide +kernel
theorem dX6_plan_2 : decode cX6_plan 2 = .ok (.putfield 51, 3) := by decide +kernel
theorem dX6_plan_5 : decode cX6_plan 5 = .ok (.aload_n 0, 1) := by decide +kernel
theorem dX6_plan_6 : decode cX6_plan 6 = .ok (.iconst 0, 1) := by decide +kernel
theorem dX6_plan_7 : decode cX6_plan 7 = .ok (.putfield 55, 3) := by decide +kernel
theorem dX6_plan_10 : decode cX6_plan 10 = .ok (.iconst 0, 1) := by decide +kernel
theorem dX6_plan_11 : decode cX6_plan 11 = .ok (.istore_n 3, 1) := by decide +kernel
theorem dX6_plan_12 : decode cX6_plan 12 = .ok (.iload_n 3, 1) := by decide +kernel
theorem dX6_plan_13 : decode cX6_plan 13 = .ok (.iconst 3, 1) := by decide +kernel
theorem dX6_plan_14 : decode cX6_plan 14 = .ok (.if_icmp .ge 81, 3) := by decide +kernel
theorem dX6_plan_17 : decode cX6_plan 17 = .ok (.aload_n 0, 1) := by decide +kernel
theorem dX6_plan_18 : decode cX6_plan 18 = .ok (.aload_n 1, 1) := by decide +kernel
theorem dX6_plan_19 : decode cX6_plan 19 = .ok (.aload_n 2, 1) := by decide +kernel
theorem dX6_plan_20 : decode cX6_plan 20 = .ok (.iload_n 3, 1) := by decide +kernel
theorem dX6_plan_21 : decode cX6_plan 21 = .ok (.invokevirtual 58, 3) := by decide +kernel
theorem dX6_plan_24 : decode cX6_plan 24 = .ok (.aload_n 0, 1) := by decide +kernel
theorem dX6_plan_25 : decode cX6_plan 25 = .ok (.aload_n 1, 1) := by decide +kernel
theorem dX6_plan_26 : decode cX6_plan 26 = .ok (.iload_n 3, 1) := by decide +kernel
theorem dX6_plan_27 : decode cX6_plan 27 = .ok (.invokevirtual 62, 3) := by decide +kernel
theorem dX6_plan_30 : decode cX6_plan 30 = .ok (.aload_n 0, 1) := by decide +kernel
theorem dX6_plan_31 : decode cX6_plan 31 = .ok (.aload_n 1, 1) := by decide +kernel
theorem dX6_plan_32 : decode cX6_plan 32 = .ok (.invokevirtual 66, 3) := by decide +kernel
theorem dX6_plan_35 : decode cX6_plan 35 = .ok (.iconst 1, 1) := by decide +kernel
theorem dX6_plan_36 : decode cX6_plan 36 = .ok (.istore 4, 2) := by decide +kernel
theorem dX6_plan_38 : decode cX6_plan 38 = .ok (.iconst 0, 1) := by decide +kernel
theorem dX6_plan_39 : decode cX6_plan 39 = .ok (.istore 5, 2) := by decide +kernel
theorem dX6_plan_41 : decode cX6_plan 41 = .ok (.iload 5, 2) := by decide +kernel
theorem dX6_plan_43 : decode cX6_plan 43 = .ok (.ldc 70, 2) := by decide +kernel
theorem dX6_plan_45 : decode cX6_plan 45 = .ok (.if_icmp .ge 44, 3) := by decide +kernel
theorem dX6_plan_48 : decode cX6_plan 48 = .ok (.iload 4, 2) := by decide +kernel
theorem dX6_plan_50 : decode cX6_plan 50 = .ok (.ifCond .eq 39, 3) := by decide +kernel
theorem dX6_plan_53 : decode cX6_plan 53 = .ok (.aload_n 0, 1) := by decide +kernel
theorem dX6_plan_54 : decode cX6_plan 54 = .ok (.invokevirtual 71, 3) := by decide +kernel
theorem dX6_plan_57 : decode cX6_plan 57 = .ok (.istore 6, 2) := by decide +kernel
theorem dX6_plan_59 : decode cX6_plan 59 = .ok (.iload 6, 2) := by decide +kernel
theorem dX6_plan_61 : decode cX6_plan 61 = .ok (.iconst (-1), 1) := by decide +kernel
theorem dX6_plan_62 : decode cX6_plan 62 = .ok (.if_icmp .eq 7, 3) := by decide +kernel
theorem dX6_plan_65 : decode cX6_plan 65 = .ok (.iconst 1, 1) := by decide +kernel
theorem dX6_plan_66 : decode cX6_plan 66 = .ok (.goto 4, 3) := by decide +kernel
theorem dX6_plan_69 : decode cX6_plan 69 = .ok (.iconst 0, 1) := by decide +kernel
theorem dX6_plan_70 : decode cX6_plan 70 = .ok (.istore 4, 2) := by decide +kernel
theorem dX6_plan_72 : decode cX6_plan 72 = .ok (.iload 4, 2) := by decide +kernel
theorem dX6_plan_74 : decode cX6_plan 74 = .ok (.ifCond .eq 9, 3) := by decide +kernel
theorem dX6_plan_77 : decode cX6_plan 77 = .ok (.aload_n 0, 1) := by decide +kernel
theorem dX6_plan_78 : decode cX6_plan 78 = .ok (.iload 6, 2) := by decide +kernel
theorem dX6_plan_80 : decode cX6_plan 80 = .ok (.invokevirtual 75, 3) := by decide +kernel
theorem dX6_plan_83 : decode cX6_plan 83 = .ok (.iinc 5 1, 3) := by decide +kernel
theorem dX6_plan_86 : decode cX6_plan 86 = .ok (.goto (-45), 3) := by decide +kernel
theorem dX6_plan_89 : decode cX6_plan 89 = .ok (.iinc 3 1, 3) := by decide +kernel
theorem dX6_plan_92 : decode cX6_plan 92 = .ok (.goto (-80), 3) := by decide +kernel
theorem dX6_plan_95 : decode cX6_plan 95 = .ok (.return_, 1) := by decide +kernel
theorem dX6_gatherFeasts_0 : decode cX6_gatherFeasts 0 = .ok (.aload_n 0, 1) := by decide +kernel
theorem dX6_gatherFeasts_1 : decode cX6_gatherFeasts 1 = .ok (.iconst 0, 1) := by decide +kernel
theorem dX6_gatherFeasts_2 : decode cX6_gatherFeasts 2 = .ok (.putfield 79, 3) := by decide +kernel
theorem dX6_gatherFeasts_5 : decode cX6_gatherFeasts 5 = .ok (.iconst 0, 1) := by decide +kernel
theorem dX6_gatherFeasts_6 : decode cX6_gatherFeasts 6 = .ok (.istore 4, 2) := by decide +kernel
theorem dX6_gatherFeasts_8 : decode cX6_gatherFeasts 8 = .ok (.iload 4, 2) := by decide +kernel
theorem dX6_gatherFeasts_10 : decode cX6_gatherFeasts 10 = .ok (.aload_n 2, 1) := by decide +kernel
theorem dX6_gatherFeasts_11 : decode cX6_gatherFeasts 11 = .ok (.getfield 82, 3) := by decide +kernel
theorem dX6_gatherFeasts_14 : decode cX6_gatherFeasts 14 = .ok (.if_icmp .ge 126, 3) := by decide +kernel
theorem dX6_gatherFeasts_17 : decode cX6_gatherFeasts 17 = .ok (.aload_n 2, 1) := by decide +kernel
theorem dX6_gatherFeasts_18 : decode cX6_gatherFeasts 18 = .ok (.getfield 87, 3) := by decide +kernel
theorem dX6_gatherFeasts_21 : decode cX6_gatherFeasts 21 = .ok (.iload 4, 2) := by decide +kernel
theorem dX6_gatherFeasts_23 : decode cX6_gatherFeasts 23 = .ok (.iaload, 1) := by decide +kernel
theorem dX6_gatherFeasts_24 : decode cX6_gatherFeasts 24 = .ok (.aload_n 1, 1) := by decide +kernel
theorem dX6_gatherFeasts_25 : decode cX6_gatherFeasts 25 = .ok (.getfield 90, 3) := by decide +kernel
theorem dX6_gatherFeasts_28 : decode cX6_gatherFeasts 28 = .ok (.isub, 1) := by decide +kernel
theorem dX6_gatherFeasts_29 : decode cX6_gatherFeasts 29 = .ok (.istore 5, 2) := by decide +kernel
theorem dX6_gatherFeasts_31 : decode cX6_gatherFeasts 31 = .ok (.aload_n 2, 1) := by decide +kernel
theorem dX6_gatherFeasts_32 : decode cX6_gatherFeasts 32 = .ok (.getfield 94, 3) := by decide +kernel
theorem dX6_gatherFeasts_35 : decode cX6_gatherFeasts 35 = .ok (.iload 4, 2) := by decide +kernel
theorem dX6_gatherFeasts_37 : decode cX6_gatherFeasts 37 = .ok (.iaload, 1) := by decide +kernel
theorem dX6_gatherFeasts_38 : decode cX6_gatherFeasts 38 = .ok (.iload_n 3, 1) := by decide +kernel
theorem dX6_gatherFeasts_39 : decode cX6_gatherFeasts 39 = .ok (.if_icmp .ne 95, 3) := by decide +kernel
theorem dX6_gatherFeasts_42 : decode cX6_gatherFeasts 42 = .ok (.iload 5, 2) := by decide +kernel
theorem dX6_gatherFeasts_44 : decode cX6_gatherFeasts 44 = .ok (.ifCond .lt 90, 3) := by decide +kernel
theorem dX6_gatherFeasts_47 : decode cX6_gatherFeasts 47 = .ok (.iload 5, 2) := by decide +kernel
theorem dX6_gatherFeasts_49 : decode cX6_gatherFeasts 49 = .ok (.aload_n 1, 1) := by decide +kernel
theorem dX6_gatherFeasts_50 : decode cX6_gatherFeasts 50 = .ok (.getfield 97, 3) := by decide +kernel
theorem dX6_gatherFeasts_53 : decode cX6_gatherFeasts 53 = .ok (.iload_n 3, 1) := by decide +kernel
theorem dX6_gatherFeasts_54 : decode cX6_gatherFeasts 54 = .ok (.iaload, 1) := by decide +kernel
theorem dX6_gatherFeasts_55 : decode cX6_gatherFeasts 55 = .ok (.if_icmp .gt 79, 3) := by decide +kernel
theorem dX6_gatherFeasts_58 : decode cX6_gatherFeasts 58 = .ok (.aload_n 0, 1) := by decide +kernel
theorem dX6_gatherFeasts_59 : decode cX6_gatherFeasts 59 = .ok (.getfield 9, 3) := by decide +kernel
theorem dX6_gatherFeasts_62 : decode cX6_gatherFeasts 62 = .ok (.aload_n 0, 1) := by decide +kernel
theorem dX6_gatherFeasts_63 : decode cX6_gatherFeasts 63 = .ok (.getfield 79, 3) := by decide +kernel
theorem dX6_gatherFeasts_66 : decode cX6_gatherFeasts 66 = .ok (.aload_n 2, 1) := by decide +kernel
theorem dX6_gatherFeasts_67 : decode cX6_gatherFeasts 67 = .ok (.getfield 100, 3) := by decide +kernel
theorem dX6_gatherFeasts_70 : decode cX6_gatherFeasts 70 = .ok (.iload 4, 2) := by decide +kernel
theorem dX6_gatherFeasts_72 : decode cX6_gatherFeasts 72 = .ok (.iaload, 1) := by decide +kernel
theorem dX6_gatherFeasts_73 : decode cX6_gatherFeasts 73 = .ok (.iastore, 1) := by decide +kernel
theorem dX6_gatherFeasts_74 : decode cX6_gatherFeasts 74 = .ok (.aload_n 0, 1) := by decide +kernel
theorem dX6_gatherFeasts_75 : decode cX6_gatherFeasts 75 = .ok (.getfield 15, 3) := by decide +kernel
theorem dX6_gatherFeasts_78 : decode cX6_gatherFeasts 78 = .ok (.aload_n 0, 1) := by decide +kernel
theorem dX6_gatherFeasts_79 : decode cX6_gatherFeasts 79 = .ok (.getfield 79, 3) := by decide +kernel
theorem dX6_gatherFeasts_82 : decode cX6_gatherFeasts 82 = .ok (.aload_n 2, 1) := by decide +kernel
theorem dX6_gatherFeasts_83 : decode cX6_gatherFeasts 83 = .ok (.getfield 87, 3) := by decide +kernel
theorem dX6_gatherFeasts_86 : decode cX6_gatherFeasts 86 = .ok (.iload 4, 2) := by decide +kernel
theorem dX6_gatherFeasts_88 : decode cX6_gatherFeasts 88 = .ok (.iaload, 1) := by decide +kernel
theorem dX6_gatherFeasts_89 : decode cX6_gatherFeasts 89 = .ok (.iastore, 1) := by decide +kernel
theorem dX6_gatherFeasts_90 : decode cX6_gatherFeasts 90 = .ok (.aload_n 0, 1) := by decide +kernel
theorem dX6_gatherFeasts_91 : decode cX6_gatherFeasts 91 = .ok (.getfield 18, 3) := by decide +kernel
theorem dX6_gatherFeasts_94 : decode cX6_gatherFeasts 94 = .ok (.aload_n 0, 1) := by decide +kernel
theorem dX6_gatherFeasts_95 : decode cX6_gatherFeasts 95 = .ok (.getfield 79, 3) := by decide +kernel
theorem dX6_gatherFeasts_98 : decode cX6_gatherFeasts 98 = .ok (.aload_n 1, 1) := by decide +kernel
theorem dX6_gatherFeasts_99 : decode cX6_gatherFeasts 99 = .ok (.getfield 97, 3) := by decide +kernel
theorem dX6_gatherFeasts_102 : decode cX6_gatherFeasts 102 = .ok (.iload_n 3, 1) := by decide +kernel
theorem dX6_gatherFeasts_103 : decode cX6_gatherFeasts 103 = .ok (.iaload, 1) := by decide +kernel
theorem dX6_gatherFeasts_104 : decode cX6_gatherFeasts 104 = .ok (.iload 5, 2) := by decide +kernel
theorem dX6_gatherFeasts_106 : decode cX6_gatherFeasts 106 = .ok (.isub, 1) := by decide +kernel
theorem dX6_gatherFeasts_107 : decode cX6_gatherFeasts 107 = .ok (.iastore, 1) := by decide +kernel
theorem dX6_gatherFeasts_108 : decode cX6_gatherFeasts 108 = .ok (.aload_n 0, 1) := by decide +kernel
theorem dX6_gatherFeasts_109 : decode cX6_gatherFeasts 109 = .ok (.getfield 21, 3) := by decide +kernel
theorem dX6_gatherFeasts_112 : decode cX6_gatherFeasts 112 = .ok (.aload_n 0, 1) := by decide +kernel
theorem dX6_gatherFeasts_113 : decode cX6_gatherFeasts 113 = .ok (.getfield 79, 3) := by decide +kernel
theorem dX6_gatherFeasts_116 : decode cX6_gatherFeasts 116 = .ok (.aload_n 2, 1) := by decide +kernel
theorem dX6_gatherFeasts_117 : decode cX6_gatherFeasts 117 = .ok (.getfield 103, 3) := by decide +kernel
theorem dX6_gatherFeasts_120 : decode cX6_gatherFeasts 120 = .ok (.iload 4, 2) := by decide +kernel
theorem dX6_gatherFeasts_122 : decode cX6_gatherFeasts 122 = .ok (.iaload, 1) := by decide +kernel
theorem dX6_gatherFeasts_123 : decode cX6_gatherFeasts 123 = .ok (.iastore, 1) := by decide +kernel
theorem dX6_gatherFeasts_124 : decode cX6_gatherFeasts 124 = .ok (.aload_n 0, 1) := by decide +kernel
theorem dX6_gatherFeasts_125 : decode cX6_gatherFeasts 125 = .ok (.dup, 1) := by decide +kernel
theorem dX6_gatherFeasts_126 : decode cX6_gatherFeasts 126 = .ok (.getfield 79, 3) := by decide +kernel
theorem dX6_gatherFeasts_129 : decode cX6_gatherFeasts 129 = .ok (.iconst 1, 1) := by decide +kernel
theorem dX6_gatherFeasts_130 : decode cX6_gatherFeasts 130 = .ok (.iadd, 1) := by decide +kernel
theorem dX6_gatherFeasts_131 : decode cX6_gatherFeasts 131 = .ok (.putfield 79, 3) := by decide +kernel
theorem dX6_gatherFeasts_134 : decode cX6_gatherFeasts 134 = .ok (.iinc 4 1, 3) := by decide +kernel
theorem dX6_gatherFeasts_137 : decode cX6_gatherFeasts 137 = .ok (.goto (-129), 3) := by decide +kernel
theorem dX6_gatherFeasts_140 : decode cX6_gatherFeasts 140 = .ok (.return_, 1) := by decide +kernel
theorem dX6_gatherPiles_0 : decode cX6_gatherPiles 0 = .ok (.aload_n 0, 1) := by decide +kernel
theorem dX6_gatherPiles_1 : decode cX6_gatherPiles 1 = .ok (.iconst 0, 1) := by decide +kernel
theorem dX6_gatherPiles_2 : decode cX6_gatherPiles 2 = .ok (.putfield 106, 3) := by decide +kernel
theorem dX6_gatherPiles_5 : decode cX6_gatherPiles 5 = .ok (.iconst 0, 1) := by decide +kernel
theorem dX6_gatherPiles_6 : decode cX6_gatherPiles 6 = .ok (.istore_n 3, 1) := by decide +kernel
theorem dX6_gatherPiles_7 : decode cX6_gatherPiles 7 = .ok (.iload_n 3, 1) := by decide +kernel
theorem dX6_gatherPiles_8 : decode cX6_gatherPiles 8 = .ok (.aload_n 1, 1) := by decide +kernel
theorem dX6_gatherPiles_9 : decode cX6_gatherPiles 9 = .ok (.getfield 109, 3) := by decide +kernel
theorem dX6_gatherPiles_12 : decode cX6_gatherPiles 12 = .ok (.if_icmp .ge 158, 3) := by decide +kernel
theorem dX6_gatherPiles_15 : decode cX6_gatherPiles 15 = .ok (.aload_n 0, 1) := by decide +kernel
theorem dX6_gatherPiles_16 : decode cX6_gatherPiles 16 = .ok (.getfield 79, 3) := by decide +kernel
theorem dX6_gatherPiles_19 : decode cX6_gatherPiles 19 = .ok (.ifCond .le 151, 3) := by decide +kernel
theorem dX6_gatherPiles_22 : decode cX6_gatherPiles 22 = .ok (.iconst 0, 1) := by decide +kernel
theorem dX6_gatherPiles_23 : decode cX6_gatherPiles 23 = .ok (.istore 4, 2) := by decide +kernel
theorem dX6_gatherPiles_25 : decode cX6_gatherPiles 25 = .ok (.bipush 60, 2) := by decide +kernel
theorem dX6_gatherPiles_27 : decode cX6_gatherPiles 27 = .ok (.istore 5, 2) := by decide +kernel
theorem dX6_gatherPiles_29 : decode cX6_gatherPiles 29 = .ok (.iload 5, 2) := by decide +kernel
theorem dX6_gatherPiles_31 : decode cX6_gatherPiles 31 = .ok (.ifCond .lt 133, 3) := by decide +kernel
theorem dX6_gatherPiles_34 : decode cX6_gatherPiles 34 = .ok (.aload_n 1, 1) := by decide +kernel
theorem dX6_gatherPiles_35 : decode cX6_gatherPiles 35 = .ok (.getfield 112, 3) := by decide +kernel
theorem dX6_gatherPiles_38 : decode cX6_gatherPiles 38 = .ok (.iload_n 3, 1) := by decide +kernel
theorem dX6_gatherPiles_39 : decode cX6_gatherPiles 39 = .ok (.aaload, 1) := by decide +kernel
theorem dX6_gatherPiles_40 : decode cX6_gatherPiles 40 = .ok (.getfield 116, 3) := by decide +kernel
theorem dX6_gatherPiles_43 : decode cX6_gatherPiles 43 = .ok (.iload_n 2, 1) := by decide +kernel
theorem dX6_gatherPiles_44 : decode cX6_gatherPiles 44 = .ok (.aaload, 1) := by decide +kernel
theorem dX6_gatherPiles_45 : decode cX6_gatherPiles 45 = .ok (.iload 5, 2) := by decide +kernel
theorem dX6_gatherPiles_47 : decode cX6_gatherPiles 47 = .ok (.iaload, 1) := by decide +kernel
theorem dX6_gatherPiles_48 : decode cX6_gatherPiles 48 = .ok (.istore 6, 2) := by decide +kernel
end
section
theorem dX6_gatherPiles_50 : decode cX6_gatherPiles 50 = .ok (.iload 6, 2) := by decide +kernel
theorem dX6_gatherPiles_52 : decode cX6_gatherPiles 52 = .ok (.ifCond .le 12, 3) := by decide +kernel
theorem dX6_gatherPiles_55 : decode cX6_gatherPiles 55 = .ok (.aload_n 0, 1) := by decide +kernel
theorem dX6_gatherPiles_56 : decode cX6_gatherPiles 56 = .ok (.iload 5, 2) := by decide +kernel
theorem dX6_gatherPiles_58 : decode cX6_gatherPiles 58 = .ok (.invokevirtual 122, 3) := by decide +kernel
theorem dX6_gatherPiles_61 : decode cX6_gatherPiles 61 = .ok (.goto 4, 3) := by decide +kernel
theorem dX6_gatherPiles_64 : decode cX6_gatherPiles 64 = .ok (.iconst 0, 1) := by decide +kernel
theorem dX6_gatherPiles_65 : decode cX6_gatherPiles 65 = .ok (.istore 7, 2) := by decide +kernel
theorem dX6_gatherPiles_67 : decode cX6_gatherPiles 67 = .ok (.iload 7, 2) := by decide +kernel
theorem dX6_gatherPiles_69 : decode cX6_gatherPiles 69 = .ok (.ifCond .le 29, 3) := by decide +kernel
theorem dX6_gatherPiles_72 : decode cX6_gatherPiles 72 = .ok (.iload 7, 2) := by decide +kernel
theorem dX6_gatherPiles_74 : decode cX6_gatherPiles 74 = .ok (.iload 4, 2) := by decide +kernel
theorem dX6_gatherPiles_76 : decode cX6_gatherPiles 76 = .ok (.if_icmp .ne 22, 3) := by decide +kernel
theorem dX6_gatherPiles_79 : decode cX6_gatherPiles 79 = .ok (.aload_n 0, 1) := by decide +kernel
theorem dX6_gatherPiles_80 : decode cX6_gatherPiles 80 = .ok (.getfield 36, 3) := by decide +kernel
theorem dX6_gatherPiles_83 : decode cX6_gatherPiles 83 = .ok (.aload_n 0, 1) := by decide +kernel
theorem dX6_gatherPiles_84 : decode cX6_gatherPiles 84 = .ok (.getfield 106, 3) := by decide +kernel
theorem dX6_gatherPiles_87 : decode cX6_gatherPiles 87 = .ok (.iconst 1, 1) := by decide +kernel
theorem dX6_gatherPiles_88 : decode cX6_gatherPiles 88 = .ok (.isub, 1) := by decide +kernel
theorem dX6_gatherPiles_89 : decode cX6_gatherPiles 89 = .ok (.dup2, 1) := by decide +kernel
theorem dX6_gatherPiles_90 : decode cX6_gatherPiles 90 = .ok (.iaload, 1) := by decide +kernel
theorem dX6_gatherPiles_91 : decode cX6_gatherPiles 91 = .ok (.iload 6, 2) := by decide +kernel
theorem dX6_gatherPiles_93 : decode cX6_gatherPiles 93 = .ok (.iadd, 1) := by decide +kernel
theorem dX6_gatherPiles_94 : decode cX6_gatherPiles 94 = .ok (.iastore, 1) := by decide +kernel
theorem dX6_gatherPiles_95 : decode cX6_gatherPiles 95 = .ok (.goto 63, 3) := by decide +kernel
theorem dX6_gatherPiles_98 : decode cX6_gatherPiles 98 = .ok (.iload 7, 2) := by decide +kernel
theorem dX6_gatherPiles_100 : decode cX6_gatherPiles 100 = .ok (.ifCond .le 58, 3) := by decide +kernel
theorem dX6_gatherPiles_103 : decode cX6_gatherPiles 103 = .ok (.aload_n 0, 1) := by decide +kernel
theorem dX6_gatherPiles_104 : decode cX6_gatherPiles 104 = .ok (.getfield 106, 3) := by decide +kernel
theorem dX6_gatherPiles_107 : decode cX6_gatherPiles 107 = .ok (.bipush 80, 2) := by decide +kernel
theorem dX6_gatherPiles_109 : decode cX6_gatherPiles 109 = .ok (.if_icmp .ge 49, 3) := by decide +kernel
theorem dX6_gatherPiles_112 : decode cX6_gatherPiles 112 = .ok (.aload_n 0, 1) := by decide +kernel
theorem dX6_gatherPiles_113 : decode cX6_gatherPiles 113 = .ok (.getfield 30, 3) := by decide +kernel
theorem dX6_gatherPiles_116 : decode cX6_gatherPiles 116 = .ok (.aload_n 0, 1) := by decide +kernel
theorem dX6_gatherPiles_117 : decode cX6_gatherPiles 117 = .ok (.getfield 106, 3) := by decide +kernel
theorem dX6_gatherPiles_120 : decode cX6_gatherPiles 120 = .ok (.iload_n 3, 1) := by decide +kernel
theorem dX6_gatherPiles_121 : decode cX6_gatherPiles 121 = .ok (.iastore, 1) := by decide +kernel
theorem dX6_gatherPiles_122 : decode cX6_gatherPiles 122 = .ok (.aload_n 0, 1) := by decide +kernel
theorem dX6_gatherPiles_123 : decode cX6_gatherPiles 123 = .ok (.getfield 33, 3) := by decide +kernel
theorem dX6_gatherPiles_126 : decode cX6_gatherPiles 126 = .ok (.aload_n 0, 1) := by decide +kernel
theorem dX6_gatherPiles_127 : decode cX6_gatherPiles 127 = .ok (.getfield 106, 3) := by decide +kernel
theorem dX6_gatherPiles_130 : decode cX6_gatherPiles 130 = .ok (.iload 5, 2) := by decide +kernel
theorem dX6_gatherPiles_132 : decode cX6_gatherPiles 132 = .ok (.iastore, 1) := by decide +kernel
theorem dX6_gatherPiles_133 : decode cX6_gatherPiles 133 = .ok (.aload_n 0, 1) := by decide +kernel
theorem dX6_gatherPiles_134 : decode cX6_gatherPiles 134 = .ok (.getfield 36, 3) := by decide +kernel
theorem dX6_gatherPiles_137 : decode cX6_gatherPiles 137 = .ok (.aload_n 0, 1) := by decide +kernel
theorem dX6_gatherPiles_138 : decode cX6_gatherPiles 138 = .ok (.getfield 106, 3) := by decide +kernel
theorem dX6_gatherPiles_141 : decode cX6_gatherPiles 141 = .ok (.iload 6, 2) := by decide +kernel
theorem dX6_gatherPiles_143 : decode cX6_gatherPiles 143 = .ok (.iastore, 1) := by decide +kernel
theorem dX6_gatherPiles_144 : decode cX6_gatherPiles 144 = .ok (.aload_n 0, 1) := by decide +kernel
theorem dX6_gatherPiles_145 : decode cX6_gatherPiles 145 = .ok (.dup, 1) := by decide +kernel
theorem dX6_gatherPiles_146 : decode cX6_gatherPiles 146 = .ok (.getfield 106, 3) := by decide +kernel
theorem dX6_gatherPiles_149 : decode cX6_gatherPiles 149 = .ok (.iconst 1, 1) := by decide +kernel
theorem dX6_gatherPiles_150 : decode cX6_gatherPiles 150 = .ok (.iadd, 1) := by decide +kernel
theorem dX6_gatherPiles_151 : decode cX6_gatherPiles 151 = .ok (.putfield 106, 3) := by decide +kernel
theorem dX6_gatherPiles_154 : decode cX6_gatherPiles 154 = .ok (.iload 7, 2) := by decide +kernel
theorem dX6_gatherPiles_156 : decode cX6_gatherPiles 156 = .ok (.istore 4, 2) := by decide +kernel
theorem dX6_gatherPiles_158 : decode cX6_gatherPiles 158 = .ok (.iinc 5 (-1), 3) := by decide +kernel
theorem dX6_gatherPiles_161 : decode cX6_gatherPiles 161 = .ok (.goto (-132), 3) := by decide +kernel
theorem dX6_gatherPiles_164 : decode cX6_gatherPiles 164 = .ok (.iinc 3 1, 3) := by decide +kernel
theorem dX6_gatherPiles_167 : decode cX6_gatherPiles 167 = .ok (.goto (-160), 3) := by decide +kernel
theorem dX6_gatherPiles_170 : decode cX6_gatherPiles 170 = .ok (.return_, 1) := by decide +kernel
theorem dX6_feastsServedAt_0 : decode cX6_feastsServedAt 0 = .ok (.iconst 0, 1) := by decide +kernel
theorem dX6_feastsServedAt_1 : decode cX6_feastsServedAt 1 = .ok (.istore_n 2, 1) := by decide +kernel
theorem dX6_feastsServedAt_2 : decode cX6_feastsServedAt 2 = .ok (.iconst 0, 1) := by decide +kernel
theorem dX6_feastsServedAt_3 : decode cX6_feastsServedAt 3 = .ok (.istore_n 3, 1) := by decide +kernel
theorem dX6_feastsServedAt_4 : decode cX6_feastsServedAt 4 = .ok (.iload_n 3, 1) := by decide +kernel
theorem dX6_feastsServedAt_5 : decode cX6_feastsServedAt 5 = .ok (.aload_n 0, 1) := by decide +kernel
theorem dX6_feastsServedAt_6 : decode cX6_feastsServedAt 6 = .ok (.getfield 79, 3) := by decide +kernel
theorem dX6_feastsServedAt_9 : decode cX6_feastsServedAt 9 = .ok (.if_icmp .ge 22, 3) := by decide +kernel
theorem dX6_feastsServedAt_12 : decode cX6_feastsServedAt 12 = .ok (.iload_n 1, 1) := by decide +kernel
theorem dX6_feastsServedAt_13 : decode cX6_feastsServedAt 13 = .ok (.aload_n 0, 1) := by decide +kernel
theorem dX6_feastsServedAt_14 : decode cX6_feastsServedAt 14 = .ok (.getfield 18, 3) := by decide +kernel
theorem dX6_feastsServedAt_17 : decode cX6_feastsServedAt 17 = .ok (.iload_n 3, 1) := by decide +kernel
theorem dX6_feastsServedAt_18 : decode cX6_feastsServedAt 18 = .ok (.iaload, 1) := by decide +kernel
theorem dX6_feastsServedAt_19 : decode cX6_feastsServedAt 19 = .ok (.if_icmp .gt 6, 3) := by decide +kernel
theorem dX6_feastsServedAt_22 : decode cX6_feastsServedAt 22 = .ok (.iinc 2 1, 3) := by decide +kernel
theorem dX6_feastsServedAt_25 : decode cX6_feastsServedAt 25 = .ok (.iinc 3 1, 3) := by decide +kernel
theorem dX6_feastsServedAt_28 : decode cX6_feastsServedAt 28 = .ok (.goto (-24), 3) := by decide +kernel
theorem dX6_feastsServedAt_31 : decode cX6_feastsServedAt 31 = .ok (.iload_n 2, 1) := by decide +kernel
theorem dX6_feastsServedAt_32 : decode cX6_feastsServedAt 32 = .ok (.ireturn, 1) := by decide +kernel
theorem dX6_findDays_0 : decode cX6_findDays 0 = .ok (.iconst 0, 1) := by decide +kernel
theorem dX6_findDays_1 : decode cX6_findDays 1 = .ok (.istore_n 2, 1) := by decide +kernel
theorem dX6_findDays_2 : decode cX6_findDays 2 = .ok (.iload_n 2, 1) := by decide +kernel
theorem dX6_findDays_3 : decode cX6_findDays 3 = .ok (.aload_n 0, 1) := by decide +kernel
theorem dX6_findDays_4 : decode cX6_findDays 4 = .ok (.getfield 106, 3) := by decide +kernel
theorem dX6_findDays_7 : decode cX6_findDays 7 = .ok (.if_icmp .ge 136, 3) := by decide +kernel
theorem dX6_findDays_10 : decode cX6_findDays 10 = .ok (.iconst 0, 1) := by decide +kernel
theorem dX6_findDays_11 : decode cX6_findDays 11 = .ok (.istore_n 3, 1) := by decide +kernel
theorem dX6_findDays_12 : decode cX6_findDays 12 = .ok (.iload_n 3, 1) := by decide +kernel
theorem dX6_findDays_13 : decode cX6_findDays 13 = .ok (.aload_n 0, 1) := by decide +kernel
theorem dX6_findDays_14 : decode cX6_findDays 14 = .ok (.getfield 79, 3) := by decide +kernel
theorem dX6_findDays_17 : decode cX6_findDays 17 = .ok (.if_icmp .ge 120, 3) := by decide +kernel
theorem dX6_findDays_20 : decode cX6_findDays 20 = .ok (.aload_n 1, 1) := by decide +kernel
theorem dX6_findDays_21 : decode cX6_findDays 21 = .ok (.getfield 126, 3) := by decide +kernel
theorem dX6_findDays_24 : decode cX6_findDays 24 = .ok (.aload_n 0, 1) := by decide +kernel
theorem dX6_findDays_25 : decode cX6_findDays 25 = .ok (.getfield 30, 3) := by decide +kernel
theorem dX6_findDays_28 : decode cX6_findDays 28 = .ok (.iload_n 2, 1) := by decide +kernel
theorem dX6_findDays_29 : decode cX6_findDays 29 = .ok (.iaload, 1) := by decide +kernel
theorem dX6_findDays_30 : decode cX6_findDays 30 = .ok (.aaload, 1) := by decide +kernel
theorem dX6_findDays_31 : decode cX6_findDays 31 = .ok (.aload_n 0, 1) := by decide +kernel
theorem dX6_findDays_32 : decode cX6_findDays 32 = .ok (.getfield 9, 3) := by decide +kernel
theorem dX6_findDays_35 : decode cX6_findDays 35 = .ok (.iload_n 3, 1) := by decide +kernel
theorem dX6_findDays_36 : decode cX6_findDays 36 = .ok (.iaload, 1) := by decide +kernel
theorem dX6_findDays_37 : decode cX6_findDays 37 = .ok (.iaload, 1) := by decide +kernel
theorem dX6_findDays_38 : decode cX6_findDays 38 = .ok (.istore 4, 2) := by decide +kernel
theorem dX6_findDays_40 : decode cX6_findDays 40 = .ok (.aload_n 1, 1) := by decide +kernel
theorem dX6_findDays_41 : decode cX6_findDays 41 = .ok (.getfield 90, 3) := by decide +kernel
theorem dX6_findDays_44 : decode cX6_findDays 44 = .ok (.iload 4, 2) := by decide +kernel
theorem dX6_findDays_46 : decode cX6_findDays 46 = .ok (.invokestatic 128, 3) := by decide +kernel
theorem dX6_findDays_49 : decode cX6_findDays 49 = .ok (.iadd, 1) := by decide +kernel
theorem dX6_findDays_50 : decode cX6_findDays 50 = .ok (.aload_n 0, 1) := by decide +kernel
theorem dX6_findDays_51 : decode cX6_findDays 51 = .ok (.getfield 15, 3) := by decide +kernel
theorem dX6_findDays_54 : decode cX6_findDays 54 = .ok (.iload_n 3, 1) := by decide +kernel
theorem dX6_findDays_55 : decode cX6_findDays 55 = .ok (.iaload, 1) := by decide +kernel
theorem dX6_findDays_56 : decode cX6_findDays 56 = .ok (.if_icmp .gt 7, 3) := by decide +kernel
theorem dX6_findDays_59 : decode cX6_findDays 59 = .ok (.iconst 1, 1) := by decide +kernel
theorem dX6_findDays_60 : decode cX6_findDays 60 = .ok (.goto 4, 3) := by decide +kernel
theorem dX6_findDays_63 : decode cX6_findDays 63 = .ok (.iconst 0, 1) := by decide +kernel
theorem dX6_findDays_64 : decode cX6_findDays 64 = .ok (.istore 5, 2) := by decide +kernel
theorem dX6_findDays_66 : decode cX6_findDays 66 = .ok (.aload_n 0, 1) := by decide +kernel
theorem dX6_findDays_67 : decode cX6_findDays 67 = .ok (.getfield 33, 3) := by decide +kernel
theorem dX6_findDays_70 : decode cX6_findDays 70 = .ok (.iload_n 2, 1) := by decide +kernel
theorem dX6_findDays_71 : decode cX6_findDays 71 = .ok (.iaload, 1) := by decide +kernel
theorem dX6_findDays_72 : decode cX6_findDays 72 = .ok (.aload_n 0, 1) := by decide +kernel
theorem dX6_findDays_73 : decode cX6_findDays 73 = .ok (.getfield 18, 3) := by decide +kernel
theorem dX6_findDays_76 : decode cX6_findDays 76 = .ok (.iload_n 3, 1) := by decide +kernel
theorem dX6_findDays_77 : decode cX6_findDays 77 = .ok (.iaload, 1) := by decide +kernel
theorem dX6_findDays_78 : decode cX6_findDays 78 = .ok (.if_icmp .gt 7, 3) := by decide +kernel
theorem dX6_findDays_81 : decode cX6_findDays 81 = .ok (.iconst 1, 1) := by decide +kernel
theorem dX6_findDays_82 : decode cX6_findDays 82 = .ok (.goto 4, 3) := by decide +kernel
theorem dX6_findDays_85 : decode cX6_findDays 85 = .ok (.iconst 0, 1) := by decide +kernel
theorem dX6_findDays_86 : decode cX6_findDays 86 = .ok (.istore 6, 2) := by decide +kernel
theorem dX6_findDays_88 : decode cX6_findDays 88 = .ok (.aload_n 0, 1) := by decide +kernel
theorem dX6_findDays_89 : decode cX6_findDays 89 = .ok (.getfield 45, 3) := by decide +kernel
theorem dX6_findDays_92 : decode cX6_findDays 92 = .ok (.iload_n 2, 1) := by decide +kernel
theorem dX6_findDays_93 : decode cX6_findDays 93 = .ok (.iload_n 3, 1) := by decide +kernel
theorem dX6_findDays_94 : decode cX6_findDays 94 = .ok (.invokestatic 131, 3) := by decide +kernel
theorem dX6_findDays_97 : decode cX6_findDays 97 = .ok (.iload 4, 2) := by decide +kernel
theorem dX6_findDays_99 : decode cX6_findDays 99 = .ok (.iconst (-1), 1) := by decide +kernel
theorem dX6_findDays_100 : decode cX6_findDays 100 = .ok (.if_icmp .eq 18, 3) := by decide +kernel
theorem dX6_findDays_103 : decode cX6_findDays 103 = .ok (.iload 5, 2) := by decide +kernel
theorem dX6_findDays_105 : decode cX6_findDays 105 = .ok (.ifCond .eq 13, 3) := by decide +kernel
theorem dX6_findDays_108 : decode cX6_findDays 108 = .ok (.iload 6, 2) := by decide +kernel
theorem dX6_findDays_110 : decode cX6_findDays 110 = .ok (.ifCond .eq 8, 3) := by decide +kernel
theorem dX6_findDays_113 : decode cX6_findDays 113 = .ok (.iload 4, 2) := by decide +kernel
theorem dX6_findDays_115 : decode cX6_findDays 115 = .ok (.goto 4, 3) := by decide +kernel
theorem dX6_findDays_118 : decode cX6_findDays 118 = .ok (.iconst (-1), 1) := by decide +kernel
theorem dX6_findDays_119 : decode cX6_findDays 119 = .ok (.iastore, 1) := by decide +kernel
theorem dX6_findDays_120 : decode cX6_findDays 120 = .ok (.aload_n 0, 1) := by decide +kernel
theorem dX6_findDays_121 : decode cX6_findDays 121 = .ok (.getfield 48, 3) := by decide +kernel
theorem dX6_findDays_124 : decode cX6_findDays 124 = .ok (.iload_n 2, 1) := by decide +kernel
theorem dX6_findDays_125 : decode cX6_findDays 125 = .ok (.iload_n 3, 1) := by decide +kernel
theorem dX6_findDays_126 : decode cX6_findDays 126 = .ok (.invokestatic 131, 3) := by decide +kernel
theorem dX6_findDays_129 : decode cX6_findDays 129 = .ok (.iconst 0, 1) := by decide +kernel
theorem dX6_findDays_130 : decode cX6_findDays 130 = .ok (.iastore, 1) := by decide +kernel
theorem dX6_findDays_131 : decode cX6_findDays 131 = .ok (.iinc 3 1, 3) := by decide +kernel
theorem dX6_findDays_134 : decode cX6_findDays 134 = .ok (.goto (-122), 3) := by decide +kernel
theorem dX6_findDays_137 : decode cX6_findDays 137 = .ok (.iinc 2 1, 3) := by decide +kernel
theorem dX6_findDays_140 : decode cX6_findDays 140 = .ok (.goto (-138), 3) := by decide +kernel
theorem dX6_findDays_143 : decode cX6_findDays 143 = .ok (.return_, 1) := by decide +kernel
theorem dX6_pair_0 : decode cX6_pair 0 = .ok (.iload_n 0, 1) := by decide +kernel
theorem dX6_pair_1 : decode cX6_pair 1 = .ok (.bipush 10, 2) := by decide +kernel
theorem dX6_pair_3 : decode cX6_pair 3 = .ok (.imul, 1) := by decide +kernel
theorem dX6_pair_4 : decode cX6_pair 4 = .ok (.iload_n 1, 1) := by decide +kernel
theorem dX6_pair_5 : decode cX6_pair 5 = .ok (.iadd, 1) := by decide +kernel
theorem dX6_pair_6 : decode cX6_pair 6 = .ok (.ireturn, 1) := by decide +kernel
theorem dX6_cheapestFeast_0 : decode cX6_cheapestFeast 0 = .ok (.aload_n 0, 1) := by decide +kernel
theorem dX6_cheapestFeast_1 : decode cX6_cheapestFeast 1 = .ok (.getfield 24, 3) := by decide +kernel
theorem dX6_cheapestFeast_4 : decode cX6_cheapestFeast 4 = .ok (.ldc 135, 2) := by decide +kernel
theorem dX6_cheapestFeast_6 : decode cX6_cheapestFeast 6 = .ok (.invokestatic 136, 3) := by decide +kernel
theorem dX6_cheapestFeast_9 : decode cX6_cheapestFeast 9 = .ok (.iconst 0, 1) := by decide +kernel
theorem dX6_cheapestFeast_10 : decode cX6_cheapestFeast 10 = .ok (.istore_n 1, 1) := by decide +kernel
theorem dX6_cheapestFeast_11 : decode cX6_cheapestFeast 11 = .ok (.iload_n 1, 1) := by decide +kernel
theorem dX6_cheapestFeast_12 : decode cX6_cheapestFeast 12 = .ok (.aload_n 0, 1) := by decide +kernel
theorem dX6_cheapestFeast_13 : decode cX6_cheapestFeast 13 = .ok (.getfield 106, 3) := by decide +kernel
theorem dX6_cheapestFeast_16 : decode cX6_cheapestFeast 16 = .ok (.if_icmp .ge 37, 3) := by decide +kernel
theorem dX6_cheapestFeast_19 : decode cX6_cheapestFeast 19 = .ok (.aload_n 0, 1) := by decide +kernel
theorem dX6_cheapestFeast_20 : decode cX6_cheapestFeast 20 = .ok (.getfield 39, 3) := by decide +kernel
theorem dX6_cheapestFeast_23 : decode cX6_cheapestFeast 23 = .ok (.iload_n 1, 1) := by decide +kernel
theorem dX6_cheapestFeast_24 : decode cX6_cheapestFeast 24 = .ok (.aload_n 0, 1) := by decide +kernel
theorem dX6_cheapestFeast_25 : decode cX6_cheapestFeast 25 = .ok (.getfield 36, 3) := by decide +kernel
theorem dX6_cheapestFeast_28 : decode cX6_cheapestFeast 28 = .ok (.iload_n 1, 1) := by decide +kernel
theorem dX6_cheapestFeast_29 : decode cX6_cheapestFeast 29 = .ok (.iaload, 1) := by decide +kernel
theorem dX6_cheapestFeast_30 : decode cX6_cheapestFeast 30 = .ok (.ifCond .le 7, 3) := by decide +kernel
theorem dX6_cheapestFeast_33 : decode cX6_cheapestFeast 33 = .ok (.iconst 0, 1) := by decide +kernel
theorem dX6_cheapestFeast_34 : decode cX6_cheapestFeast 34 = .ok (.goto 5, 3) := by decide +kernel
theorem dX6_cheapestFeast_37 : decode cX6_cheapestFeast 37 = .ok (.ldc 135, 2) := by decide +kernel
theorem dX6_cheapestFeast_39 : decode cX6_cheapestFeast 39 = .ok (.iastore, 1) := by decide +kernel
theorem dX6_cheapestFeast_40 : decode cX6_cheapestFeast 40 = .ok (.aload_n 0, 1) := by decide +kernel
theorem dX6_cheapestFeast_41 : decode cX6_cheapestFeast 41 = .ok (.getfield 42, 3) := by decide +kernel
theorem dX6_cheapestFeast_44 : decode cX6_cheapestFeast 44 = .ok (.iload_n 1, 1) := by decide +kernel
theorem dX6_cheapestFeast_45 : decode cX6_cheapestFeast 45 = .ok (.iconst (-1), 1) := by decide +kernel
theorem dX6_cheapestFeast_46 : decode cX6_cheapestFeast 46 = .ok (.iastore, 1) := by decide +kernel
theorem dX6_cheapestFeast_47 : decode cX6_cheapestFeast 47 = .ok (.iinc 1 1, 3) := by decide +kernel
theorem dX6_cheapestFeast_50 : decode cX6_cheapestFeast 50 = .ok (.goto (-39), 3) := by decide +kernel
theorem dX6_cheapestFeast_53 : decode cX6_cheapestFeast 53 = .ok (.iconst 1, 1) := by decide +kernel
theorem dX6_cheapestFeast_54 : decode cX6_cheapestFeast 54 = .ok (.istore_n 1, 1) := by decide +kernel
theorem dX6_cheapestFeast_55 : decode cX6_cheapestFeast 55 = .ok (.iconst 0, 1) := by decide +kernel
theorem dX6_cheapestFeast_56 : decode cX6_cheapestFeast 56 = .ok (.istore_n 2, 1) := by decide +kernel
theorem dX6_cheapestFeast_57 : decode cX6_cheapestFeast 57 = .ok (.iload_n 2, 1) := by decide +kernel
theorem dX6_cheapestFeast_58 : decode cX6_cheapestFeast 58 = .ok (.aload_n 0, 1) := by decide +kernel
theorem dX6_cheapestFeast_59 : decode cX6_cheapestFeast 59 = .ok (.getfield 79, 3) := by decide +kernel
theorem dX6_cheapestFeast_62 : decode cX6_cheapestFeast 62 = .ok (.if_icmp .gt 33, 3) := by decide +kernel
theorem dX6_cheapestFeast_65 : decode cX6_cheapestFeast 65 = .ok (.iload_n 1, 1) := by decide +kernel
theorem dX6_cheapestFeast_66 : decode cX6_cheapestFeast 66 = .ok (.ifCond .eq 29, 3) := by decide +kernel
theorem dX6_cheapestFeast_69 : decode cX6_cheapestFeast 69 = .ok (.aload_n 0, 1) := by decide +kernel
theorem dX6_cheapestFeast_70 : decode cX6_cheapestFeast 70 = .ok (.invokevirtual 142, 3) := by decide +kernel
theorem dX6_cheapestFeast_73 : decode cX6_cheapestFeast 73 = .ok (.ifCond .eq 14, 3) := by decide +kernel
theorem dX6_cheapestFeast_76 : decode cX6_cheapestFeast 76 = .ok (.aload_n 0, 1) := by decide +kernel
theorem dX6_cheapestFeast_77 : decode cX6_cheapestFeast 77 = .ok (.invokevirtual 146, 3) := by decide +kernel
theorem dX6_cheapestFeast_80 : decode cX6_cheapestFeast 80 = .ok (.ifCond .eq 7, 3) := by decide +kernel
theorem dX6_cheapestFeast_83 : decode cX6_cheapestFeast 83 = .ok (.iconst 1, 1) := by decide +kernel
theorem dX6_cheapestFeast_84 : decode cX6_cheapestFeast 84 = .ok (.goto 4, 3) := by decide +kernel
theorem dX6_cheapestFeast_87 : decode cX6_cheapestFeast 87 = .ok (.iconst 0, 1) := by decide +kernel
theorem dX6_cheapestFeast_88 : decode cX6_cheapestFeast 88 = .ok (.istore_n 1, 1) := by decide +kernel
theorem dX6_cheapestFeast_89 : decode cX6_cheapestFeast 89 = .ok (.iinc 2 1, 3) := by decide +kernel
theorem dX6_cheapestFeast_92 : decode cX6_cheapestFeast 92 = .ok (.goto (-35), 3) := by decide +kernel
theorem dX6_cheapestFeast_95 : decode cX6_cheapestFeast 95 = .ok (.iconst (-1), 1) := by decide +kernel
theorem dX6_cheapestFeast_96 : decode cX6_cheapestFeast 96 = .ok (.istore_n 2, 1) := by decide +kernel
theorem dX6_cheapestFeast_97 : decode cX6_cheapestFeast 97 = .ok (.iconst 0, 1) := by decide +kernel
theorem dX6_cheapestFeast_98 : decode cX6_cheapestFeast 98 = .ok (.istore_n 3, 1) := by decide +kernel
theorem dX6_cheapestFeast_99 : decode cX6_cheapestFeast 99 = .ok (.iload_n 3, 1) := by decide +kernel
theorem dX6_cheapestFeast_100 : decode cX6_cheapestFeast 100 = .ok (.aload_n 0, 1) := by decide +kernel
theorem dX6_cheapestFeast_101 : decode cX6_cheapestFeast 101 = .ok (.getfield 79, 3) := by decide +kernel
theorem dX6_cheapestFeast_104 : decode cX6_cheapestFeast 104 = .ok (.if_icmp .ge 63, 3) := by decide +kernel
theorem dX6_cheapestFeast_107 : decode cX6_cheapestFeast 107 = .ok (.aload_n 0, 1) := by decide +kernel
theorem dX6_cheapestFeast_108 : decode cX6_cheapestFeast 108 = .ok (.getfield 21, 3) := by decide +kernel
theorem dX6_cheapestFeast_111 : decode cX6_cheapestFeast 111 = .ok (.iload_n 3, 1) := by decide +kernel
theorem dX6_cheapestFeast_112 : decode cX6_cheapestFeast 112 = .ok (.iaload, 1) := by decide +kernel
theorem dX6_cheapestFeast_113 : decode cX6_cheapestFeast 113 = .ok (.ifCond .le 18, 3) := by decide +kernel
theorem dX6_cheapestFeast_116 : decode cX6_cheapestFeast 116 = .ok (.aload_n 0, 1) := by decide +kernel
theorem dX6_cheapestFeast_117 : decode cX6_cheapestFeast 117 = .ok (.getfield 24, 3) := by decide +kernel
theorem dX6_cheapestFeast_120 : decode cX6_cheapestFeast 120 = .ok (.iload_n 3, 1) := by decide +kernel
theorem dX6_cheapestFeast_121 : decode cX6_cheapestFeast 121 = .ok (.iaload, 1) := by decide +kernel
theorem dX6_cheapestFeast_122 : decode cX6_cheapestFeast 122 = .ok (.ldc 135, 2) := by decide +kernel
theorem dX6_cheapestFeast_124 : decode cX6_cheapestFeast 124 = .ok (.if_icmp .ge 7, 3) := by decide +kernel
theorem dX6_cheapestFeast_127 : decode cX6_cheapestFeast 127 = .ok (.iconst 1, 1) := by decide +kernel
theorem dX6_cheapestFeast_128 : decode cX6_cheapestFeast 128 = .ok (.goto 4, 3) := by decide +kernel
theorem dX6_cheapestFeast_131 : decode cX6_cheapestFeast 131 = .ok (.iconst 0, 1) := by decide +kernel
theorem dX6_cheapestFeast_132 : decode cX6_cheapestFeast 132 = .ok (.istore 4, 2) := by decide +kernel
theorem dX6_cheapestFeast_134 : decode cX6_cheapestFeast 134 = .ok (.iload 4, 2) := by decide +kernel
theorem dX6_cheapestFeast_136 : decode cX6_cheapestFeast 136 = .ok (.ifCond .eq 25, 3) := by decide +kernel
theorem dX6_cheapestFeast_139 : decode cX6_cheapestFeast 139 = .ok (.iload_n 2, 1) := by decide +kernel
theorem dX6_cheapestFeast_140 : decode cX6_cheapestFeast 140 = .ok (.iconst (-1), 1) := by decide +kernel
theorem dX6_cheapestFeast_141 : decode cX6_cheapestFeast 141 = .ok (.if_icmp .eq 18, 3) := by decide +kernel
theorem dX6_cheapestFeast_144 : decode cX6_cheapestFeast 144 = .ok (.aload_n 0, 1) := by decide +kernel
theorem dX6_cheapestFeast_145 : decode cX6_cheapestFeast 145 = .ok (.getfield 24, 3) := by decide +kernel
theorem dX6_cheapestFeast_148 : decode cX6_cheapestFeast 148 = .ok (.iload_n 3, 1) := by decide +kernel
theorem dX6_cheapestFeast_149 : decode cX6_cheapestFeast 149 = .ok (.iaload, 1) := by decide +kernel
theorem dX6_cheapestFeast_150 : decode cX6_cheapestFeast 150 = .ok (.aload_n 0, 1) := by decide +kernel
theorem dX6_cheapestFeast_151 : decode cX6_cheapestFeast 151 = .ok (.getfield 24, 3) := by decide +kernel
theorem dX6_cheapestFeast_154 : decode cX6_cheapestFeast 154 = .ok (.iload_n 2, 1) := by decide +kernel
theorem dX6_cheapestFeast_155 : decode cX6_cheapestFeast 155 = .ok (.iaload, 1) := by decide +kernel
theorem dX6_cheapestFeast_156 : decode cX6_cheapestFeast 156 = .ok (.if_icmp .ge 5, 3) := by decide +kernel
theorem dX6_cheapestFeast_159 : decode cX6_cheapestFeast 159 = .ok (.iload_n 3, 1) := by decide +kernel
theorem dX6_cheapestFeast_160 : decode cX6_cheapestFeast 160 = .ok (.istore_n 2, 1) := by decide +kernel
theorem dX6_cheapestFeast_161 : decode cX6_cheapestFeast 161 = .ok (.iinc 3 1, 3) := by decide +kernel
theorem dX6_cheapestFeast_164 : decode cX6_cheapestFeast 164 = .ok (.goto (-65), 3) := by decide +kernel
theorem dX6_cheapestFeast_167 : decode cX6_cheapestFeast 167 = .ok (.iload_n 2, 1) := by decide +kernel
theorem dX6_cheapestFeast_168 : decode cX6_cheapestFeast 168 = .ok (.ireturn, 1) := by decide +kernel
theorem dX6_goForth_0 : decode cX6_goForth 0 = .ok (.iconst 0, 1) := by decide +kernel
theorem dX6_goForth_1 : decode cX6_goForth 1 = .ok (.istore_n 1, 1) := by decide +kernel
theorem dX6_goForth_2 : decode cX6_goForth 2 = .ok (.iconst 0, 1) := by decide +kernel
theorem dX6_goForth_3 : decode cX6_goForth 3 = .ok (.istore_n 2, 1) := by decide +kernel
theorem dX6_goForth_4 : decode cX6_goForth 4 = .ok (.iload_n 2, 1) := by decide +kernel
theorem dX6_goForth_5 : decode cX6_goForth 5 = .ok (.aload_n 0, 1) := by decide +kernel
theorem dX6_goForth_6 : decode cX6_goForth 6 = .ok (.getfield 106, 3) := by decide +kernel
theorem dX6_goForth_9 : decode cX6_goForth 9 = .ok (.if_icmp .ge 93, 3) := by decide +kernel
theorem dX6_goForth_12 : decode cX6_goForth 12 = .ok (.iconst 0, 1) := by decide +kernel
theorem dX6_goForth_13 : decode cX6_goForth 13 = .ok (.istore_n 3, 1) := by decide +kernel
theorem dX6_goForth_14 : decode cX6_goForth 14 = .ok (.iload_n 3, 1) := by decide +kernel
theorem dX6_goForth_15 : decode cX6_goForth 15 = .ok (.aload_n 0, 1) := by decide +kernel
theorem dX6_goForth_16 : decode cX6_goForth 16 = .ok (.getfield 79, 3) := by decide +kernel
theorem dX6_goForth_19 : decode cX6_goForth 19 = .ok (.if_icmp .ge 77, 3) := by decide +kernel
theorem dX6_goForth_22 : decode cX6_goForth 22 = .ok (.aload_n 0, 1) := by decide +kernel
theorem dX6_goForth_23 : decode cX6_goForth 23 = .ok (.getfield 39, 3) := by decide +kernel
theorem dX6_goForth_26 : decode cX6_goForth 26 = .ok (.iload_n 2, 1) := by decide +kernel
theorem dX6_goForth_27 : decode cX6_goForth 27 = .ok (.iaload, 1) := by decide +kernel
theorem dX6_goForth_28 : decode cX6_goForth 28 = .ok (.ldc 135, 2) := by decide +kernel
theorem dX6_goForth_30 : decode cX6_goForth 30 = .ok (.if_icmp .ge 66, 3) := by decide +kernel
theorem dX6_goForth_33 : decode cX6_goForth 33 = .ok (.aload_n 0, 1) := by decide +kernel
theorem dX6_goForth_34 : decode cX6_goForth 34 = .ok (.getfield 45, 3) := by decide +kernel
theorem dX6_goForth_37 : decode cX6_goForth 37 = .ok (.iload_n 2, 1) := by decide +kernel
theorem dX6_goForth_38 : decode cX6_goForth 38 = .ok (.iload_n 3, 1) := by decide +kernel
theorem dX6_goForth_39 : decode cX6_goForth 39 = .ok (.invokestatic 131, 3) := by decide +kernel
theorem dX6_goForth_42 : decode cX6_goForth 42 = .ok (.iaload, 1) := by decide +kernel
theorem dX6_goForth_43 : decode cX6_goForth 43 = .ok (.istore 4, 2) := by decide +kernel
theorem dX6_goForth_45 : decode cX6_goForth 45 = .ok (.aload_n 0, 1) := by decide +kernel
theorem dX6_goForth_46 : decode cX6_goForth 46 = .ok (.getfield 39, 3) := by decide +kernel
theorem dX6_goForth_49 : decode cX6_goForth 49 = .ok (.iload_n 2, 1) := by decide +kernel
theorem dX6_goForth_50 : decode cX6_goForth 50 = .ok (.iaload, 1) := by decide +kernel
theorem dX6_goForth_51 : decode cX6_goForth 51 = .ok (.iload 4, 2) := by decide +kernel
theorem dX6_goForth_53 : decode cX6_goForth 53 = .ok (.iadd, 1) := by decide +kernel
theorem dX6_goForth_54 : decode cX6_goForth 54 = .ok (.istore 5, 2) := by decide +kernel
theorem dX6_goForth_56 : decode cX6_goForth 56 = .ok (.iload 4, 2) := by decide +kernel
theorem dX6_goForth_58 : decode cX6_goForth 58 = .ok (.iconst (-1), 1) := by decide +kernel
theorem dX6_goForth_59 : decode cX6_goForth 59 = .ok (.if_icmp .eq 31, 3) := by decide +kernel
theorem dX6_goForth_62 : decode cX6_goForth 62 = .ok (.iload 5, 2) := by decide +kernel
theorem dX6_goForth_64 : decode cX6_goForth 64 = .ok (.aload_n 0, 1) := by decide +kernel
theorem dX6_goForth_65 : decode cX6_goForth 65 = .ok (.getfield 24, 3) := by decide +kernel
theorem dX6_goForth_68 : decode cX6_goForth 68 = .ok (.iload_n 3, 1) := by decide +kernel
theorem dX6_goForth_69 : decode cX6_goForth 69 = .ok (.iaload, 1) := by decide +kernel
theorem dX6_goForth_70 : decode cX6_goForth 70 = .ok (.if_icmp .ge 20, 3) := by decide +kernel
theorem dX6_goForth_73 : decode cX6_goForth 73 = .ok (.aload_n 0, 1) := by decide +kernel
theorem dX6_goForth_74 : decode cX6_goForth 74 = .ok (.getfield 24, 3) := by decide +kernel
theorem dX6_goForth_77 : decode cX6_goForth 77 = .ok (.iload_n 3, 1) := by decide +kernel
theorem dX6_goForth_78 : decode cX6_goForth 78 = .ok (.iload 5, 2) := by decide +kernel
theorem dX6_goForth_80 : decode cX6_goForth 80 = .ok (.iastore, 1) := by decide +kernel
theorem dX6_goForth_81 : decode cX6_goForth 81 = .ok (.aload_n 0, 1) := by decide +kernel
theorem dX6_goForth_82 : decode cX6_goForth 82 = .ok (.getfield 27, 3) := by decide +kernel
theorem dX6_goForth_85 : decode cX6_goForth 85 = .ok (.iload_n 3, 1) := by decide +kernel
theorem dX6_goForth_86 : decode cX6_goForth 86 = .ok (.iload_n 2, 1) := by decide +kernel
theorem dX6_goForth_87 : decode cX6_goForth 87 = .ok (.iastore, 1) := by decide +kernel
theorem dX6_goForth_88 : decode cX6_goForth 88 = .ok (.iconst 1, 1) := by decide +kernel
theorem dX6_goForth_89 : decode cX6_goForth 89 = .ok (.istore_n 1, 1) := by decide +kernel
theorem dX6_goForth_90 : decode cX6_goForth 90 = .ok (.iinc 3 1, 3) := by decide +kernel
theorem dX6_goForth_93 : decode cX6_goForth 93 = .ok (.goto (-79), 3) := by decide +kernel
theorem dX6_goForth_96 : decode cX6_goForth 96 = .ok (.iinc 2 1, 3) := by decide +kernel
theorem dX6_goForth_99 : decode cX6_goForth 99 = .ok (.goto (-95), 3) := by decide +kernel
theorem dX6_goForth_102 : decode cX6_goForth 102 = .ok (.iload_n 1, 1) := by decide +kernel
theorem dX6_goForth_103 : decode cX6_goForth 103 = .ok (.ireturn, 1) := by decide +kernel
theorem dX6_goBack_0 : decode cX6_goBack 0 = .ok (.iconst 0, 1) := by decide +kernel
theorem dX6_goBack_1 : decode cX6_goBack 1 = .ok (.istore_n 1, 1) := by decide +kernel
theorem dX6_goBack_2 : decode cX6_goBack 2 = .ok (.iconst 0, 1) := by decide +kernel
theorem dX6_goBack_3 : decode cX6_goBack 3 = .ok (.istore_n 2, 1) := by decide +kernel
theorem dX6_goBack_4 : decode cX6_goBack 4 = .ok (.iload_n 2, 1) := by decide +kernel
theorem dX6_goBack_5 : decode cX6_goBack 5 = .ok (.aload_n 0, 1) := by decide +kernel
theorem dX6_goBack_6 : decode cX6_goBack 6 = .ok (.getfield 79, 3) := by decide +kernel
theorem dX6_goBack_9 : decode cX6_goBack 9 = .ok (.if_icmp .ge 96, 3) := by decide +kernel
theorem dX6_goBack_12 : decode cX6_goBack 12 = .ok (.iconst 0, 1) := by decide +kernel
theorem dX6_goBack_13 : decode cX6_goBack 13 = .ok (.istore_n 3, 1) := by decide +kernel
theorem dX6_goBack_14 : decode cX6_goBack 14 = .ok (.iload_n 3, 1) := by decide +kernel
theorem dX6_goBack_15 : decode cX6_goBack 15 = .ok (.aload_n 0, 1) := by decide +kernel
theorem dX6_goBack_16 : decode cX6_goBack 16 = .ok (.getfield 106, 3) := by decide +kernel
theorem dX6_goBack_19 : decode cX6_goBack 19 = .ok (.if_icmp .ge 80, 3) := by decide +kernel
theorem dX6_goBack_22 : decode cX6_goBack 22 = .ok (.aload_n 0, 1) := by decide +kernel
theorem dX6_goBack_23 : decode cX6_goBack 23 = .ok (.getfield 24, 3) := by decide +kernel
theorem dX6_goBack_26 : decode cX6_goBack 26 = .ok (.iload_n 2, 1) := by decide +kernel
theorem dX6_goBack_27 : decode cX6_goBack 27 = .ok (.iaload, 1) := by decide +kernel
theorem dX6_goBack_28 : decode cX6_goBack 28 = .ok (.ldc 135, 2) := by decide +kernel
theorem dX6_goBack_30 : decode cX6_goBack 30 = .ok (.if_icmp .ge 69, 3) := by decide +kernel
theorem dX6_goBack_33 : decode cX6_goBack 33 = .ok (.aload_n 0, 1) := by decide +kernel
theorem dX6_goBack_34 : decode cX6_goBack 34 = .ok (.getfield 24, 3) := by decide +kernel
theorem dX6_goBack_37 : decode cX6_goBack 37 = .ok (.iload_n 2, 1) := by decide +kernel
theorem dX6_goBack_38 : decode cX6_goBack 38 = .ok (.iaload, 1) := by decide +kernel
theorem dX6_goBack_39 : decode cX6_goBack 39 = .ok (.aload_n 0, 1) := by decide +kernel
theorem dX6_goBack_40 : decode cX6_goBack 40 = .ok (.getfield 45, 3) := by decide +kernel
theorem dX6_goBack_43 : decode cX6_goBack 43 = .ok (.iload_n 3, 1) := by decide +kernel
theorem dX6_goBack_44 : decode cX6_goBack 44 = .ok (.iload_n 2, 1) := by decide +kernel
theorem dX6_goBack_45 : decode cX6_goBack 45 = .ok (.invokestatic 131, 3) := by decide +kernel
theorem dX6_goBack_48 : decode cX6_goBack 48 = .ok (.iaload, 1) := by decide +kernel
theorem dX6_goBack_49 : decode cX6_goBack 49 = .ok (.isub, 1) := by decide +kernel
theorem dX6_goBack_50 : decode cX6_goBack 50 = .ok (.istore 4, 2) := by decide +kernel
theorem dX6_goBack_52 : decode cX6_goBack 52 = .ok (.aload_n 0, 1) := by decide +kernel
theorem dX6_goBack_53 : decode cX6_goBack 53 = .ok (.getfield 48, 3) := by decide +kernel
theorem dX6_goBack_56 : decode cX6_goBack 56 = .ok (.iload_n 3, 1) := by decide +kernel
theorem dX6_goBack_57 : decode cX6_goBack 57 = .ok (.iload_n 2, 1) := by decide +kernel
theorem dX6_goBack_58 : decode cX6_goBack 58 = .ok (.invokestatic 131, 3) := by decide +kernel
theorem dX6_goBack_61 : decode cX6_goBack 61 = .ok (.iaload, 1) := by decide +kernel
theorem dX6_goBack_62 : decode cX6_goBack 62 = .ok (.ifCond .le 31, 3) := by decide +kernel
theorem dX6_goBack_65 : decode cX6_goBack 65 = .ok (.iload 4, 2) := by decide +kernel
theorem dX6_goBack_67 : decode cX6_goBack 67 = .ok (.aload_n 0, 1) := by decide +kernel
theorem dX6_goBack_68 : decode cX6_goBack 68 = .ok (.getfield 39, 3) := by decide +kernel
theorem dX6_goBack_71 : decode cX6_goBack 71 = .ok (.iload_n 3, 1) := by decide +kernel
theorem dX6_goBack_72 : decode cX6_goBack 72 = .ok (.iaload, 1) := by decide +kernel
theorem dX6_goBack_73 : decode cX6_goBack 73 = .ok (.if_icmp .ge 20, 3) := by decide +kernel
theorem dX6_goBack_76 : decode cX6_goBack 76 = .ok (.aload_n 0, 1) := by decide +kernel
theorem dX6_goBack_77 : decode cX6_goBack 77 = .ok (.getfield 39, 3) := by decide +kernel
theorem dX6_goBack_80 : decode cX6_goBack 80 = .ok (.iload_n 3, 1) := by decide +kernel
theorem dX6_goBack_81 : decode cX6_goBack 81 = .ok (.iload 4, 2) := by decide +kernel
theorem dX6_goBack_83 : decode cX6_goBack 83 = .ok (.iastore, 1) := by decide +kernel
theorem dX6_goBack_84 : decode cX6_goBack 84 = .ok (.aload_n 0, 1) := by decide +kernel
theorem dX6_goBack_85 : decode cX6_goBack 85 = .ok (.getfield 42, 3) := by decide +kernel
theorem dX6_goBack_88 : decode cX6_goBack 88 = .ok (.iload_n 3, 1) := by decide +kernel
theorem dX6_goBack_89 : decode cX6_goBack 89 = .ok (.iload_n 2, 1) := by decide +kernel
theorem dX6_goBack_90 : decode cX6_goBack 90 = .ok (.iastore, 1) := by decide +kernel
theorem dX6_goBack_91 : decode cX6_goBack 91 = .ok (.iconst 1, 1) := by decide +kernel
theorem dX6_goBack_92 : decode cX6_goBack 92 = .ok (.istore_n 1, 1) := by decide +kernel
theorem dX6_goBack_93 : decode cX6_goBack 93 = .ok (.iinc 3 1, 3) := by decide +kernel
theorem dX6_goBack_96 : decode cX6_goBack 96 = .ok (.goto (-82), 3) := by decide +kernel
theorem dX6_goBack_99 : decode cX6_goBack 99 = .ok (.iinc 2 1, 3) := by decide +kernel
theorem dX6_goBack_102 : decode cX6_goBack 102 = .ok (.goto (-98), 3) := by decide +kernel
theorem dX6_goBack_105 : decode cX6_goBack 105 = .ok (.iload_n 1, 1) := by decide +kernel
theorem dX6_goBack_106 : decode cX6_goBack 106 = .ok (.ireturn, 1) := by decide +kernel
theorem dX6_giveAlong_0 : decode cX6_giveAlong 0 = .ok (.aload_n 0, 1) := by decide +kernel
theorem dX6_giveAlong_1 : decode cX6_giveAlong 1 = .ok (.iload_n 1, 1) := by decide +kernel
theorem dX6_giveAlong_2 : decode cX6_giveAlong 2 = .ok (.invokevirtual 149, 3) := by decide +kernel
theorem dX6_giveAlong_5 : decode cX6_giveAlong 5 = .ok (.istore_n 2, 1) := by decide +kernel
theorem dX6_giveAlong_6 : decode cX6_giveAlong 6 = .ok (.iload_n 1, 1) := by decide +kernel
theorem dX6_giveAlong_7 : decode cX6_giveAlong 7 = .ok (.istore_n 3, 1) := by decide +kernel
theorem dX6_giveAlong_8 : decode cX6_giveAlong 8 = .ok (.iconst 0, 1) := by decide +kernel
theorem dX6_giveAlong_9 : decode cX6_giveAlong 9 = .ok (.istore 4, 2) := by decide +kernel
theorem dX6_giveAlong_11 : decode cX6_giveAlong 11 = .ok (.iload 4, 2) := by decide +kernel
theorem dX6_giveAlong_13 : decode cX6_giveAlong 13 = .ok (.aload_n 0, 1) := by decide +kernel
theorem dX6_giveAlong_14 : decode cX6_giveAlong 14 = .ok (.getfield 79, 3) := by decide +kernel
theorem dX6_giveAlong_17 : decode cX6_giveAlong 17 = .ok (.if_icmp .gt 79, 3) := by decide +kernel
theorem dX6_giveAlong_20 : decode cX6_giveAlong 20 = .ok (.iload_n 3, 1) := by decide +kernel
theorem dX6_giveAlong_21 : decode cX6_giveAlong 21 = .ok (.iconst (-1), 1) := by decide +kernel
theorem dX6_giveAlong_22 : decode cX6_giveAlong 22 = .ok (.if_icmp .eq 74, 3) := by decide +kernel
theorem dX6_giveAlong_25 : decode cX6_giveAlong 25 = .ok (.aload_n 0, 1) := by decide +kernel
theorem dX6_giveAlong_26 : decode cX6_giveAlong 26 = .ok (.getfield 27, 3) := by decide +kernel
theorem dX6_giveAlong_29 : decode cX6_giveAlong 29 = .ok (.iload_n 3, 1) := by decide +kernel
theorem dX6_giveAlong_30 : decode cX6_giveAlong 30 = .ok (.iaload, 1) := by decide +kernel
theorem dX6_giveAlong_31 : decode cX6_giveAlong 31 = .ok (.istore 5, 2) := by decide +kernel
theorem dX6_giveAlong_33 : decode cX6_giveAlong 33 = .ok (.aload_n 0, 1) := by decide +kernel
theorem dX6_giveAlong_34 : decode cX6_giveAlong 34 = .ok (.getfield 48, 3) := by decide +kernel
theorem dX6_giveAlong_37 : decode cX6_giveAlong 37 = .ok (.iload 5, 2) := by decide +kernel
theorem dX6_giveAlong_39 : decode cX6_giveAlong 39 = .ok (.iload_n 3, 1) := by decide +kernel
theorem dX6_giveAlong_40 : decode cX6_giveAlong 40 = .ok (.invokestatic 131, 3) := by decide +kernel
theorem dX6_giveAlong_43 : decode cX6_giveAlong 43 = .ok (.dup2, 1) := by decide +kernel
theorem dX6_giveAlong_44 : decode cX6_giveAlong 44 = .ok (.iaload, 1) := by decide +kernel
theorem dX6_giveAlong_45 : decode cX6_giveAlong 45 = .ok (.iload_n 2, 1) := by decide +kernel
theorem dX6_giveAlong_46 : decode cX6_giveAlong 46 = .ok (.iadd, 1) := by decide +kernel
theorem dX6_giveAlong_47 : decode cX6_giveAlong 47 = .ok (.iastore, 1) := by decide +kernel
theorem dX6_giveAlong_48 : decode cX6_giveAlong 48 = .ok (.aload_n 0, 1) := by decide +kernel
theorem dX6_giveAlong_49 : decode cX6_giveAlong 49 = .ok (.getfield 42, 3) := by decide +kernel
theorem dX6_giveAlong_52 : decode cX6_giveAlong 52 = .ok (.iload 5, 2) := by decide +kernel
theorem dX6_giveAlong_54 : decode cX6_giveAlong 54 = .ok (.iaload, 1) := by decide +kernel
theorem dX6_giveAlong_55 : decode cX6_giveAlong 55 = .ok (.istore_n 3, 1) := by decide +kernel
theorem dX6_giveAlong_56 : decode cX6_giveAlong 56 = .ok (.iload_n 3, 1) := by decide +kernel
theorem dX6_giveAlong_57 : decode cX6_giveAlong 57 = .ok (.iconst (-1), 1) := by decide +kernel
theorem dX6_giveAlong_58 : decode cX6_giveAlong 58 = .ok (.if_icmp .eq 21, 3) := by decide +kernel
theorem dX6_giveAlong_61 : decode cX6_giveAlong 61 = .ok (.aload_n 0, 1) := by decide +kernel
theorem dX6_giveAlong_62 : decode cX6_giveAlong 62 = .ok (.getfield 48, 3) := by decide +kernel
theorem dX6_giveAlong_65 : decode cX6_giveAlong 65 = .ok (.iload 5, 2) := by decide +kernel
theorem dX6_giveAlong_67 : decode cX6_giveAlong 67 = .ok (.iload_n 3, 1) := by decide +kernel
theorem dX6_giveAlong_68 : decode cX6_giveAlong 68 = .ok (.invokestatic 131, 3) := by decide +kernel
theorem dX6_giveAlong_71 : decode cX6_giveAlong 71 = .ok (.dup2, 1) := by decide +kernel
theorem dX6_giveAlong_72 : decode cX6_giveAlong 72 = .ok (.iaload, 1) := by decide +kernel
theorem dX6_giveAlong_73 : decode cX6_giveAlong 73 = .ok (.iload_n 2, 1) := by decide +kernel
theorem dX6_giveAlong_74 : decode cX6_giveAlong 74 = .ok (.isub, 1) := by decide +kernel
theorem dX6_giveAlong_75 : decode cX6_giveAlong 75 = .ok (.iastore, 1) := by decide +kernel
theorem dX6_giveAlong_76 : decode cX6_giveAlong 76 = .ok (.goto 14, 3) := by decide +kernel
theorem dX6_giveAlong_79 : decode cX6_giveAlong 79 = .ok (.aload_n 0, 1) := by decide +kernel
theorem dX6_giveAlong_80 : decode cX6_giveAlong 80 = .ok (.getfield 36, 3) := by decide +kernel
theorem dX6_giveAlong_83 : decode cX6_giveAlong 83 = .ok (.iload 5, 2) := by decide +kernel
theorem dX6_giveAlong_85 : decode cX6_giveAlong 85 = .ok (.dup2, 1) := by decide +kernel
theorem dX6_giveAlong_86 : decode cX6_giveAlong 86 = .ok (.iaload, 1) := by decide +kernel
theorem dX6_giveAlong_87 : decode cX6_giveAlong 87 = .ok (.iload_n 2, 1) := by decide +kernel
theorem dX6_giveAlong_88 : decode cX6_giveAlong 88 = .ok (.isub, 1) := by decide +kernel
theorem dX6_giveAlong_89 : decode cX6_giveAlong 89 = .ok (.iastore, 1) := by decide +kernel
theorem dX6_giveAlong_90 : decode cX6_giveAlong 90 = .ok (.iinc 4 1, 3) := by decide +kernel
theorem dX6_giveAlong_93 : decode cX6_giveAlong 93 = .ok (.goto (-82), 3) := by decide +kernel
theorem dX6_giveAlong_96 : decode cX6_giveAlong 96 = .ok (.aload_n 0, 1) := by decide +kernel
theorem dX6_giveAlong_97 : decode cX6_giveAlong 97 = .ok (.getfield 21, 3) := by decide +kernel
theorem dX6_giveAlong_100 : decode cX6_giveAlong 100 = .ok (.iload_n 1, 1) := by decide +kernel
theorem dX6_giveAlong_101 : decode cX6_giveAlong 101 = .ok (.dup2, 1) := by decide +kernel
theorem dX6_giveAlong_102 : decode cX6_giveAlong 102 = .ok (.iaload, 1) := by decide +kernel
theorem dX6_giveAlong_103 : decode cX6_giveAlong 103 = .ok (.iload_n 2, 1) := by decide +kernel
end
section
theorem dX6_giveAlong_104 : decode cX6_giveAlong 104 = .ok (.isub, 1) := by decide +kernel
theorem dX6_giveAlong_105 : decode cX6_giveAlong 105 = .ok (.iastore, 1) := by decide +kernel
theorem dX6_giveAlong_106 : decode cX6_giveAlong 106 = .ok (.aload_n 0, 1) := by decide +kernel
theorem dX6_giveAlong_107 : decode cX6_giveAlong 107 = .ok (.dup, 1) := by decide +kernel
theorem dX6_giveAlong_108 : decode cX6_giveAlong 108 = .ok (.getfield 51, 3) := by decide +kernel
theorem dX6_giveAlong_111 : decode cX6_giveAlong 111 = .ok (.iload_n 2, 1) := by decide +kernel
theorem dX6_giveAlong_112 : decode cX6_giveAlong 112 = .ok (.iadd, 1) := by decide +kernel
theorem dX6_giveAlong_113 : decode cX6_giveAlong 113 = .ok (.putfield 51, 3) := by decide +kernel
theorem dX6_giveAlong_116 : decode cX6_giveAlong 116 = .ok (.aload_n 0, 1) := by decide +kernel
theorem dX6_giveAlong_117 : decode cX6_giveAlong 117 = .ok (.dup, 1) := by decide +kernel
theorem dX6_giveAlong_118 : decode cX6_giveAlong 118 = .ok (.getfield 55, 3) := by decide +kernel
theorem dX6_giveAlong_121 : decode cX6_giveAlong 121 = .ok (.iload_n 2, 1) := by decide +kernel
theorem dX6_giveAlong_122 : decode cX6_giveAlong 122 = .ok (.aload_n 0, 1) := by decide +kernel
theorem dX6_giveAlong_123 : decode cX6_giveAlong 123 = .ok (.getfield 24, 3) := by decide +kernel
theorem dX6_giveAlong_126 : decode cX6_giveAlong 126 = .ok (.iload_n 1, 1) := by decide +kernel
theorem dX6_giveAlong_127 : decode cX6_giveAlong 127 = .ok (.iaload, 1) := by decide +kernel
theorem dX6_giveAlong_128 : decode cX6_giveAlong 128 = .ok (.imul, 1) := by decide +kernel
theorem dX6_giveAlong_129 : decode cX6_giveAlong 129 = .ok (.iadd, 1) := by decide +kernel
theorem dX6_giveAlong_130 : decode cX6_giveAlong 130 = .ok (.putfield 55, 3) := by decide +kernel
theorem dX6_giveAlong_133 : decode cX6_giveAlong 133 = .ok (.return_, 1) := by decide +kernel
theorem dX6_measuresAlong_0 : decode cX6_measuresAlong 0 = .ok (.aload_n 0, 1) := by decide +kernel
theorem dX6_measuresAlong_1 : decode cX6_measuresAlong 1 = .ok (.getfield 21, 3) := by decide +kernel
theorem dX6_measuresAlong_4 : decode cX6_measuresAlong 4 = .ok (.iload_n 1, 1) := by decide +kernel
theorem dX6_measuresAlong_5 : decode cX6_measuresAlong 5 = .ok (.iaload, 1) := by decide +kernel
theorem dX6_measuresAlong_6 : decode cX6_measuresAlong 6 = .ok (.istore_n 2, 1) := by decide +kernel
theorem dX6_measuresAlong_7 : decode cX6_measuresAlong 7 = .ok (.iload_n 1, 1) := by decide +kernel
theorem dX6_measuresAlong_8 : decode cX6_measuresAlong 8 = .ok (.istore_n 3, 1) := by decide +kernel
theorem dX6_measuresAlong_9 : decode cX6_measuresAlong 9 = .ok (.iconst 0, 1) := by decide +kernel
theorem dX6_measuresAlong_10 : decode cX6_measuresAlong 10 = .ok (.istore 4, 2) := by decide +kernel
theorem dX6_measuresAlong_12 : decode cX6_measuresAlong 12 = .ok (.iload 4, 2) := by decide +kernel
theorem dX6_measuresAlong_14 : decode cX6_measuresAlong 14 = .ok (.aload_n 0, 1) := by decide +kernel
theorem dX6_measuresAlong_15 : decode cX6_measuresAlong 15 = .ok (.getfield 79, 3) := by decide +kernel
theorem dX6_measuresAlong_18 : decode cX6_measuresAlong 18 = .ok (.if_icmp .gt 61, 3) := by decide +kernel
theorem dX6_measuresAlong_21 : decode cX6_measuresAlong 21 = .ok (.iload_n 3, 1) := by decide +kernel
theorem dX6_measuresAlong_22 : decode cX6_measuresAlong 22 = .ok (.iconst (-1), 1) := by decide +kernel
theorem dX6_measuresAlong_23 : decode cX6_measuresAlong 23 = .ok (.if_icmp .eq 56, 3) := by decide +kernel
theorem dX6_measuresAlong_26 : decode cX6_measuresAlong 26 = .ok (.aload_n 0, 1) := by decide +kernel
theorem dX6_measuresAlong_27 : decode cX6_measuresAlong 27 = .ok (.getfield 27, 3) := by decide +kernel
theorem dX6_measuresAlong_30 : decode cX6_measuresAlong 30 = .ok (.iload_n 3, 1) := by decide +kernel
theorem dX6_measuresAlong_31 : decode cX6_measuresAlong 31 = .ok (.iaload, 1) := by decide +kernel
theorem dX6_measuresAlong_32 : decode cX6_measuresAlong 32 = .ok (.istore 5, 2) := by decide +kernel
theorem dX6_measuresAlong_34 : decode cX6_measuresAlong 34 = .ok (.aload_n 0, 1) := by decide +kernel
theorem dX6_measuresAlong_35 : decode cX6_measuresAlong 35 = .ok (.getfield 42, 3) := by decide +kernel
theorem dX6_measuresAlong_38 : decode cX6_measuresAlong 38 = .ok (.iload 5, 2) := by decide +kernel
theorem dX6_measuresAlong_40 : decode cX6_measuresAlong 40 = .ok (.iaload, 1) := by decide +kernel
theorem dX6_measuresAlong_41 : decode cX6_measuresAlong 41 = .ok (.istore_n 3, 1) := by decide +kernel
theorem dX6_measuresAlong_42 : decode cX6_measuresAlong 42 = .ok (.iload_n 2, 1) := by decide +kernel
theorem dX6_measuresAlong_43 : decode cX6_measuresAlong 43 = .ok (.iload_n 3, 1) := by decide +kernel
theorem dX6_measuresAlong_44 : decode cX6_measuresAlong 44 = .ok (.iconst (-1), 1) := by decide +kernel
theorem dX6_measuresAlong_45 : decode cX6_measuresAlong 45 = .ok (.if_icmp .eq 17, 3) := by decide +kernel
theorem dX6_measuresAlong_48 : decode cX6_measuresAlong 48 = .ok (.aload_n 0, 1) := by decide +kernel
theorem dX6_measuresAlong_49 : decode cX6_measuresAlong 49 = .ok (.getfield 48, 3) := by decide +kernel
theorem dX6_measuresAlong_52 : decode cX6_measuresAlong 52 = .ok (.iload 5, 2) := by decide +kernel
theorem dX6_measuresAlong_54 : decode cX6_measuresAlong 54 = .ok (.iload_n 3, 1) := by decide +kernel
theorem dX6_measuresAlong_55 : decode cX6_measuresAlong 55 = .ok (.invokestatic 131, 3) := by decide +kernel
theorem dX6_measuresAlong_58 : decode cX6_measuresAlong 58 = .ok (.iaload, 1) := by decide +kernel
theorem dX6_measuresAlong_59 : decode cX6_measuresAlong 59 = .ok (.goto 10, 3) := by decide +kernel
theorem dX6_measuresAlong_62 : decode cX6_measuresAlong 62 = .ok (.aload_n 0, 1) := by decide +kernel
theorem dX6_measuresAlong_63 : decode cX6_measuresAlong 63 = .ok (.getfield 36, 3) := by decide +kernel
theorem dX6_measuresAlong_66 : decode cX6_measuresAlong 66 = .ok (.iload 5, 2) := by decide +kernel
theorem dX6_measuresAlong_68 : decode cX6_measuresAlong 68 = .ok (.iaload, 1) := by decide +kernel
theorem dX6_measuresAlong_69 : decode cX6_measuresAlong 69 = .ok (.invokestatic 152, 3) := by decide +kernel
theorem dX6_measuresAlong_72 : decode cX6_measuresAlong 72 = .ok (.istore_n 2, 1) := by decide +kernel
theorem dX6_measuresAlong_73 : decode cX6_measuresAlong 73 = .ok (.iinc 4 1, 3) := by decide +kernel
theorem dX6_measuresAlong_76 : decode cX6_measuresAlong 76 = .ok (.goto (-64), 3) := by decide +kernel
theorem dX6_measuresAlong_79 : decode cX6_measuresAlong 79 = .ok (.iload_n 2, 1) := by decide +kernel
theorem dX6_measuresAlong_80 : decode cX6_measuresAlong 80 = .ok (.ireturn, 1) := by decide +kernel
theorem dX7_init_0 : decode cX7_init 0 = .ok (.aload_n 0, 1) := by decide +kernel
theorem dX7_init_1 : decode cX7_init 1 = .ok (.invokespecial 1, 3) := by decide +kernel
theorem dX7_init_4 : decode cX7_init 4 = .ok (.return_, 1) := by decide +kernel
theorem dX8_init_0 : decode cX8_init 0 = .ok (.aload_n 0, 1) := by decide +kernel
theorem dX8_init_1 : decode cX8_init 1 = .ok (.invokespecial 3, 3) := by decide +kernel
theorem dX8_init_4 : decode cX8_init 4 = .ok (.aload_n 0, 1) := by decide +kernel
theorem dX8_init_5 : decode cX8_init 5 = .ok (.sipush 1002, 3) := by decide +kernel
theorem dX8_init_8 : decode cX8_init 8 = .ok (.newarray .byte, 2) := by decide +kernel
theorem dX8_init_10 : decode cX8_init 10 = .ok (.putfield 9, 3) := by decide +kernel
theorem dX8_init_13 : decode cX8_init 13 = .ok (.aload_n 0, 1) := by decide +kernel
theorem dX8_init_14 : decode cX8_init 14 = .ok (.sipush 1002, 3) := by decide +kernel
theorem dX8_init_17 : decode cX8_init 17 = .ok (.newarray .int, 2) := by decide +kernel
theorem dX8_init_19 : decode cX8_init 19 = .ok (.putfield 15, 3) := by decide +kernel
theorem dX8_init_22 : decode cX8_init 22 = .ok (.aload_n 0, 1) := by decide +kernel
theorem dX8_init_23 : decode cX8_init 23 = .ok (.sipush 1002, 3) := by decide +kernel
theorem dX8_init_26 : decode cX8_init 26 = .ok (.newarray .short, 2) := by decide +kernel
theorem dX8_init_28 : decode cX8_init 28 = .ok (.putfield 19, 3) := by decide +kernel
theorem dX8_init_31 : decode cX8_init 31 = .ok (.return_, 1) := by decide +kernel
theorem dX8_scan_0 : decode cX8_scan 0 = .ok (.aload_n 0, 1) := by decide +kernel
theorem dX8_scan_1 : decode cX8_scan 1 = .ok (.iconst 0, 1) := by decide +kernel
theorem dX8_scan_2 : decode cX8_scan 2 = .ok (.putfield 23, 3) := by decide +kernel
theorem dX8_scan_5 : decode cX8_scan 5 = .ok (.iconst 0, 1) := by decide +kernel
theorem dX8_scan_6 : decode cX8_scan 6 = .ok (.istore_n 3, 1) := by decide +kernel
theorem dX8_scan_7 : decode cX8_scan 7 = .ok (.iconst 0, 1) := by decide +kernel
theorem dX8_scan_8 : decode cX8_scan 8 = .ok (.istore 4, 2) := by decide +kernel
theorem dX8_scan_10 : decode cX8_scan 10 = .ok (.iload 4, 2) := by decide +kernel
theorem dX8_scan_12 : decode cX8_scan 12 = .ok (.iload_n 2, 1) := by decide +kernel
theorem dX8_scan_13 : decode cX8_scan 13 = .ok (.if_icmp .ge 108, 3) := by decide +kernel
theorem dX8_scan_16 : decode cX8_scan 16 = .ok (.iload_n 3, 1) := by decide +kernel
theorem dX8_scan_17 : decode cX8_scan 17 = .ok (.iload_n 2, 1) := by decide +kernel
theorem dX8_scan_18 : decode cX8_scan 18 = .ok (.if_icmp .ge 103, 3) := by decide +kernel
theorem dX8_scan_21 : decode cX8_scan 21 = .ok (.aload_n 1, 1) := by decide +kernel
theorem dX8_scan_22 : decode cX8_scan 22 = .ok (.iload_n 3, 1) := by decide +kernel
theorem dX8_scan_23 : decode cX8_scan 23 = .ok (.baload, 1) := by decide +kernel
theorem dX8_scan_24 : decode cX8_scan 24 = .ok (.istore 5, 2) := by decide +kernel
theorem dX8_scan_26 : decode cX8_scan 26 = .ok (.iload 5, 2) := by decide +kernel
theorem dX8_scan_28 : decode cX8_scan 28 = .ok (.invokestatic 27, 3) := by decide +kernel
theorem dX8_scan_31 : decode cX8_scan 31 = .ok (.ifCond .eq 14, 3) := by decide +kernel
theorem dX8_scan_34 : decode cX8_scan 34 = .ok (.aload_n 0, 1) := by decide +kernel
theorem dX8_scan_35 : decode cX8_scan 35 = .ok (.aload_n 1, 1) := by decide +kernel
theorem dX8_scan_36 : decode cX8_scan 36 = .ok (.iload_n 3, 1) := by decide +kernel
theorem dX8_scan_37 : decode cX8_scan 37 = .ok (.iload_n 2, 1) := by decide +kernel
theorem dX8_scan_38 : decode cX8_scan 38 = .ok (.invokevirtual 31, 3) := by decide +kernel
theorem dX8_scan_41 : decode cX8_scan 41 = .ok (.istore_n 3, 1) := by decide +kernel
theorem dX8_scan_42 : decode cX8_scan 42 = .ok (.goto 73, 3) := by decide +kernel
theorem dX8_scan_45 : decode cX8_scan 45 = .ok (.iload 5, 2) := by decide +kernel
theorem dX8_scan_47 : decode cX8_scan 47 = .ok (.invokestatic 35, 3) := by decide +kernel
theorem dX8_scan_50 : decode cX8_scan 50 = .ok (.ifCond .eq 14, 3) := by decide +kernel
theorem dX8_scan_53 : decode cX8_scan 53 = .ok (.aload_n 0, 1) := by decide +kernel
theorem dX8_scan_54 : decode cX8_scan 54 = .ok (.aload_n 1, 1) := by decide +kernel
theorem dX8_scan_55 : decode cX8_scan 55 = .ok (.iload_n 3, 1) := by decide +kernel
theorem dX8_scan_56 : decode cX8_scan 56 = .ok (.iload_n 2, 1) := by decide +kernel
theorem dX8_scan_57 : decode cX8_scan 57 = .ok (.invokevirtual 38, 3) := by decide +kernel
theorem dX8_scan_60 : decode cX8_scan 60 = .ok (.istore_n 3, 1) := by decide +kernel
theorem dX8_scan_61 : decode cX8_scan 61 = .ok (.goto 54, 3) := by decide +kernel
theorem dX8_scan_64 : decode cX8_scan 64 = .ok (.iload 5, 2) := by decide +kernel
theorem dX8_scan_66 : decode cX8_scan 66 = .ok (.invokestatic 41, 3) := by decide +kernel
theorem dX8_scan_69 : decode cX8_scan 69 = .ok (.ifCond .eq 17, 3) := by decide +kernel
theorem dX8_scan_72 : decode cX8_scan 72 = .ok (.aload_n 0, 1) := by decide +kernel
theorem dX8_scan_73 : decode cX8_scan 73 = .ok (.iload 5, 2) := by decide +kernel
theorem dX8_scan_75 : decode cX8_scan 75 = .ok (.iconst 0, 1) := by decide +kernel
theorem dX8_scan_76 : decode cX8_scan 76 = .ok (.iload_n 3, 1) := by decide +kernel
theorem dX8_scan_77 : decode cX8_scan 77 = .ok (.invokevirtual 44, 3) := by decide +kernel
theorem dX8_scan_80 : decode cX8_scan 80 = .ok (.iinc 3 1, 3) := by decide +kernel
theorem dX8_scan_83 : decode cX8_scan 83 = .ok (.goto 32, 3) := by decide +kernel
theorem dX8_scan_86 : decode cX8_scan 86 = .ok (.iload 5, 2) := by decide +kernel
theorem dX8_scan_88 : decode cX8_scan 88 = .ok (.bipush 32, 2) := by decide +kernel
theorem dX8_scan_90 : decode cX8_scan 90 = .ok (.if_icmp .eq 10, 3) := by decide +kernel
theorem dX8_scan_93 : decode cX8_scan 93 = .ok (.iload 5, 2) := by decide +kernel
theorem dX8_scan_95 : decode cX8_scan 95 = .ok (.bipush 10, 2) := by decide +kernel
theorem dX8_scan_97 : decode cX8_scan 97 = .ok (.if_icmp .ne 9, 3) := by decide +kernel
theorem dX8_scan_100 : decode cX8_scan 100 = .ok (.iinc 3 1, 3) := by decide +kernel
theorem dX8_scan_103 : decode cX8_scan 103 = .ok (.goto 12, 3) := by decide +kernel
theorem dX8_scan_106 : decode cX8_scan 106 = .ok (.aload_n 0, 1) := by decide +kernel
theorem dX8_scan_107 : decode cX8_scan 107 = .ok (.iconst 1, 1) := by decide +kernel
theorem dX8_scan_108 : decode cX8_scan 108 = .ok (.iconst 0, 1) := by decide +kernel
theorem dX8_scan_109 : decode cX8_scan 109 = .ok (.iload_n 3, 1) := by decide +kernel
theorem dX8_scan_110 : decode cX8_scan 110 = .ok (.invokevirtual 44, 3) := by decide +kernel
theorem dX8_scan_113 : decode cX8_scan 113 = .ok (.iload_n 2, 1) := by decide +kernel
theorem dX8_scan_114 : decode cX8_scan 114 = .ok (.istore_n 3, 1) := by decide +kernel
theorem dX8_scan_115 : decode cX8_scan 115 = .ok (.iinc 4 1, 3) := by decide +kernel
theorem dX8_scan_118 : decode cX8_scan 118 = .ok (.goto (-108), 3) := by decide +kernel
theorem dX8_scan_121 : decode cX8_scan 121 = .ok (.aload_n 0, 1) := by decide +kernel
theorem dX8_scan_122 : decode cX8_scan 122 = .ok (.iconst 0, 1) := by decide +kernel
theorem dX8_scan_123 : decode cX8_scan 123 = .ok (.iconst 0, 1) := by decide +kernel
theorem dX8_scan_124 : decode cX8_scan 124 = .ok (.iload_n 2, 1) := by decide +kernel
theorem dX8_scan_125 : decode cX8_scan 125 = .ok (.invokevirtual 44, 3) := by decide +kernel
theorem dX8_scan_128 : decode cX8_scan 128 = .ok (.return_, 1) := by decide +kernel
theorem dX8_add_0 : decode cX8_add 0 = .ok (.aload_n 0, 1) := by decide +kernel
theorem dX8_add_1 : decode cX8_add 1 = .ok (.getfield 23, 3) := by decide +kernel
theorem dX8_add_4 : decode cX8_add 4 = .ok (.aload_n 0, 1) := by decide +kernel
theorem dX8_add_5 : decode cX8_add 5 = .ok (.getfield 9, 3) := by decide +kernel
theorem dX8_add_8 : decode cX8_add 8 = .ok (.arraylength, 1) := by decide +kernel
theorem dX8_add_9 : decode cX8_add 9 = .ok (.if_icmp .ge 45, 3) := by decide +kernel
theorem dX8_add_12 : decode cX8_add 12 = .ok (.aload_n 0, 1) := by decide +kernel
theorem dX8_add_13 : decode cX8_add 13 = .ok (.getfield 9, 3) := by decide +kernel
theorem dX8_add_16 : decode cX8_add 16 = .ok (.aload_n 0, 1) := by decide +kernel
theorem dX8_add_17 : decode cX8_add 17 = .ok (.getfield 23, 3) := by decide +kernel
theorem dX8_add_20 : decode cX8_add 20 = .ok (.iload_n 1, 1) := by decide +kernel
theorem dX8_add_21 : decode cX8_add 21 = .ok (.i2b, 1) := by decide +kernel
theorem dX8_add_22 : decode cX8_add 22 = .ok (.bastore, 1) := by decide +kernel
theorem dX8_add_23 : decode cX8_add 23 = .ok (.aload_n 0, 1) := by decide +kernel
theorem dX8_add_24 : decode cX8_add 24 = .ok (.getfield 15, 3) := by decide +kernel
theorem dX8_add_27 : decode cX8_add 27 = .ok (.aload_n 0, 1) := by decide +kernel
theorem dX8_add_28 : decode cX8_add 28 = .ok (.getfield 23, 3) := by decide +kernel
theorem dX8_add_31 : decode cX8_add 31 = .ok (.iload_n 2, 1) := by decide +kernel
theorem dX8_add_32 : decode cX8_add 32 = .ok (.iastore, 1) := by decide +kernel
theorem dX8_add_33 : decode cX8_add 33 = .ok (.aload_n 0, 1) := by decide +kernel
theorem dX8_add_34 : decode cX8_add 34 = .ok (.getfield 19, 3) := by decide +kernel
theorem dX8_add_37 : decode cX8_add 37 = .ok (.aload_n 0, 1) := by decide +kernel
theorem dX8_add_38 : decode cX8_add 38 = .ok (.getfield 23, 3) := by decide +kernel
theorem dX8_add_41 : decode cX8_add 41 = .ok (.iload_n 3, 1) := by decide +kernel
theorem dX8_add_42 : decode cX8_add 42 = .ok (.i2s, 1) := by decide +kernel
theorem dX8_add_43 : decode cX8_add 43 = .ok (.sastore, 1) := by decide +kernel
theorem dX8_add_44 : decode cX8_add 44 = .ok (.aload_n 0, 1) := by decide +kernel
theorem dX8_add_45 : decode cX8_add 45 = .ok (.dup, 1) := by decide +kernel
theorem dX8_add_46 : decode cX8_add 46 = .ok (.getfield 23, 3) := by decide +kernel
theorem dX8_add_49 : decode cX8_add 49 = .ok (.iconst 1, 1) := by decide +kernel
theorem dX8_add_50 : decode cX8_add 50 = .ok (.iadd, 1) := by decide +kernel
theorem dX8_add_51 : decode cX8_add 51 = .ok (.putfield 23, 3) := by decide +kernel
theorem dX8_add_54 : decode cX8_add 54 = .ok (.return_, 1) := by decide +kernel
theorem dX8_addNumber_0 : decode cX8_addNumber 0 = .ok (.iconst 0, 1) := by decide +kernel
theorem dX8_addNumber_1 : decode cX8_addNumber 1 = .ok (.istore 4, 2) := by decide +kernel
theorem dX8_addNumber_3 : decode cX8_addNumber 3 = .ok (.iload_n 2, 1) := by decide +kernel
theorem dX8_addNumber_4 : decode cX8_addNumber 4 = .ok (.istore 5, 2) := by decide +kernel
theorem dX8_addNumber_6 : decode cX8_addNumber 6 = .ok (.iload 5, 2) := by decide +kernel
theorem dX8_addNumber_8 : decode cX8_addNumber 8 = .ok (.iload_n 3, 1) := by decide +kernel
theorem dX8_addNumber_9 : decode cX8_addNumber 9 = .ok (.if_icmp .ge 34, 3) := by decide +kernel
theorem dX8_addNumber_12 : decode cX8_addNumber 12 = .ok (.aload_n 1, 1) := by decide +kernel
theorem dX8_addNumber_13 : decode cX8_addNumber 13 = .ok (.iload 5, 2) := by decide +kernel
theorem dX8_addNumber_15 : decode cX8_addNumber 15 = .ok (.baload, 1) := by decide +kernel
theorem dX8_addNumber_16 : decode cX8_addNumber 16 = .ok (.invokestatic 35, 3) := by decide +kernel
theorem dX8_addNumber_19 : decode cX8_addNumber 19 = .ok (.ifCond .eq 24, 3) := by decide +kernel
theorem dX8_addNumber_22 : decode cX8_addNumber 22 = .ok (.iload 4, 2) := by decide +kernel
theorem dX8_addNumber_24 : decode cX8_addNumber 24 = .ok (.bipush 10, 2) := by decide +kernel
theorem dX8_addNumber_26 : decode cX8_addNumber 26 = .ok (.imul, 1) := by decide +kernel
theorem dX8_addNumber_27 : decode cX8_addNumber 27 = .ok (.aload_n 1, 1) := by decide +kernel
theorem dX8_addNumber_28 : decode cX8_addNumber 28 = .ok (.iload 5, 2) := by decide +kernel
theorem dX8_addNumber_30 : decode cX8_addNumber 30 = .ok (.baload, 1) := by decide +kernel
theorem dX8_addNumber_31 : decode cX8_addNumber 31 = .ok (.iadd, 1) := by decide +kernel
theorem dX8_addNumber_32 : decode cX8_addNumber 32 = .ok (.bipush 48, 2) := by decide +kernel
theorem dX8_addNumber_34 : decode cX8_addNumber 34 = .ok (.isub, 1) := by decide +kernel
theorem dX8_addNumber_35 : decode cX8_addNumber 35 = .ok (.istore 4, 2) := by decide +kernel
theorem dX8_addNumber_37 : decode cX8_addNumber 37 = .ok (.iinc 5 1, 3) := by decide +kernel
theorem dX8_addNumber_40 : decode cX8_addNumber 40 = .ok (.goto (-34), 3) := by decide +kernel
theorem dX8_addNumber_43 : decode cX8_addNumber 43 = .ok (.iload 5, 2) := by decide +kernel
theorem dX8_addNumber_45 : decode cX8_addNumber 45 = .ok (.iload_n 3, 1) := by decide +kernel
theorem dX8_addNumber_46 : decode cX8_addNumber 46 = .ok (.if_icmp .ge 17, 3) := by decide +kernel
theorem dX8_addNumber_49 : decode cX8_addNumber 49 = .ok (.aload_n 1, 1) := by decide +kernel
theorem dX8_addNumber_50 : decode cX8_addNumber 50 = .ok (.iload 5, 2) := by decide +kernel
theorem dX8_addNumber_52 : decode cX8_addNumber 52 = .ok (.baload, 1) := by decide +kernel
theorem dX8_addNumber_53 : decode cX8_addNumber 53 = .ok (.invokestatic 27, 3) := by decide +kernel
theorem dX8_addNumber_56 : decode cX8_addNumber 56 = .ok (.ifCond .eq 7, 3) := by decide +kernel
theorem dX8_addNumber_59 : decode cX8_addNumber 59 = .ok (.iconst 1, 1) := by decide +kernel
theorem dX8_addNumber_60 : decode cX8_addNumber 60 = .ok (.goto 4, 3) := by decide +kernel
theorem dX8_addNumber_63 : decode cX8_addNumber 63 = .ok (.iconst 0, 1) := by decide +kernel
theorem dX8_addNumber_64 : decode cX8_addNumber 64 = .ok (.istore 6, 2) := by decide +kernel
theorem dX8_addNumber_66 : decode cX8_addNumber 66 = .ok (.iload 5, 2) := by decide +kernel
theorem dX8_addNumber_68 : decode cX8_addNumber 68 = .ok (.iload_n 2, 1) := by decide +kernel
theorem dX8_addNumber_69 : decode cX8_addNumber 69 = .ok (.isub, 1) := by decide +kernel
theorem dX8_addNumber_70 : decode cX8_addNumber 70 = .ok (.bipush 6, 2) := by decide +kernel
theorem dX8_addNumber_72 : decode cX8_addNumber 72 = .ok (.if_icmp .gt 8, 3) := by decide +kernel
theorem dX8_addNumber_75 : decode cX8_addNumber 75 = .ok (.iload 6, 2) := by decide +kernel
theorem dX8_addNumber_77 : decode cX8_addNumber 77 = .ok (.ifCond .eq 12, 3) := by decide +kernel
theorem dX8_addNumber_80 : decode cX8_addNumber 80 = .ok (.aload_n 0, 1) := by decide +kernel
theorem dX8_addNumber_81 : decode cX8_addNumber 81 = .ok (.iconst 1, 1) := by decide +kernel
theorem dX8_addNumber_82 : decode cX8_addNumber 82 = .ok (.iconst 0, 1) := by decide +kernel
theorem dX8_addNumber_83 : decode cX8_addNumber 83 = .ok (.iload_n 2, 1) := by decide +kernel
theorem dX8_addNumber_84 : decode cX8_addNumber 84 = .ok (.invokevirtual 44, 3) := by decide +kernel
theorem dX8_addNumber_87 : decode cX8_addNumber 87 = .ok (.iload_n 3, 1) := by decide +kernel
theorem dX8_addNumber_88 : decode cX8_addNumber 88 = .ok (.ireturn, 1) := by decide +kernel
theorem dX8_addNumber_89 : decode cX8_addNumber 89 = .ok (.aload_n 0, 1) := by decide +kernel
theorem dX8_addNumber_90 : decode cX8_addNumber 90 = .ok (.iconst 2, 1) := by decide +kernel
theorem dX8_addNumber_91 : decode cX8_addNumber 91 = .ok (.iload 4, 2) := by decide +kernel
theorem dX8_addNumber_93 : decode cX8_addNumber 93 = .ok (.iload_n 2, 1) := by decide +kernel
theorem dX8_addNumber_94 : decode cX8_addNumber 94 = .ok (.invokevirtual 44, 3) := by decide +kernel
theorem dX8_addNumber_97 : decode cX8_addNumber 97 = .ok (.iload 5, 2) := by decide +kernel
theorem dX8_addNumber_99 : decode cX8_addNumber 99 = .ok (.ireturn, 1) := by decide +kernel
theorem dX8_addName_0 : decode cX8_addName 0 = .ok (.aload_n 1, 1) := by decide +kernel
theorem dX8_addName_1 : decode cX8_addName 1 = .ok (.iload_n 2, 1) := by decide +kernel
theorem dX8_addName_2 : decode cX8_addName 2 = .ok (.iload_n 3, 1) := by decide +kernel
theorem dX8_addName_3 : decode cX8_addName 3 = .ok (.invokestatic 48, 3) := by decide +kernel
theorem dX8_addName_6 : decode cX8_addName 6 = .ok (.ifCond .eq 21, 3) := by decide +kernel
theorem dX8_addName_9 : decode cX8_addName 9 = .ok (.aload_n 0, 1) := by decide +kernel
theorem dX8_addName_10 : decode cX8_addName 10 = .ok (.iconst 3, 1) := by decide +kernel
theorem dX8_addName_11 : decode cX8_addName 11 = .ok (.aload_n 1, 1) := by decide +kernel
theorem dX8_addName_12 : decode cX8_addName 12 = .ok (.iload_n 2, 1) := by decide +kernel
theorem dX8_addName_13 : decode cX8_addName 13 = .ok (.iconst 1, 1) := by decide +kernel
theorem dX8_addName_14 : decode cX8_addName 14 = .ok (.iadd, 1) := by decide +kernel
theorem dX8_addName_15 : decode cX8_addName 15 = .ok (.baload, 1) := by decide +kernel
theorem dX8_addName_16 : decode cX8_addName 16 = .ok (.bipush 48, 2) := by decide +kernel
theorem dX8_addName_18 : decode cX8_addName 18 = .ok (.isub, 1) := by decide +kernel
theorem dX8_addName_19 : decode cX8_addName 19 = .ok (.iload_n 2, 1) := by decide +kernel
theorem dX8_addName_20 : decode cX8_addName 20 = .ok (.invokevirtual 44, 3) := by decide +kernel
theorem dX8_addName_23 : decode cX8_addName 23 = .ok (.iload_n 2, 1) := by decide +kernel
theorem dX8_addName_24 : decode cX8_addName 24 = .ok (.iconst 2, 1) := by decide +kernel
theorem dX8_addName_25 : decode cX8_addName 25 = .ok (.iadd, 1) := by decide +kernel
theorem dX8_addName_26 : decode cX8_addName 26 = .ok (.ireturn, 1) := by decide +kernel
theorem dX8_addName_27 : decode cX8_addName 27 = .ok (.iload_n 2, 1) := by decide +kernel
theorem dX8_addName_28 : decode cX8_addName 28 = .ok (.istore 4, 2) := by decide +kernel
theorem dX8_addName_30 : decode cX8_addName 30 = .ok (.iload 4, 2) := by decide +kernel
theorem dX8_addName_32 : decode cX8_addName 32 = .ok (.iload_n 3, 1) := by decide +kernel
theorem dX8_addName_33 : decode cX8_addName 33 = .ok (.if_icmp .ge 19, 3) := by decide +kernel
theorem dX8_addName_36 : decode cX8_addName 36 = .ok (.aload_n 1, 1) := by decide +kernel
theorem dX8_addName_37 : decode cX8_addName 37 = .ok (.iload 4, 2) := by decide +kernel
theorem dX8_addName_39 : decode cX8_addName 39 = .ok (.baload, 1) := by decide +kernel
theorem dX8_addName_40 : decode cX8_addName 40 = .ok (.invokestatic 27, 3) := by decide +kernel
theorem dX8_addName_43 : decode cX8_addName 43 = .ok (.ifCond .eq 9, 3) := by decide +kernel
theorem dX8_addName_46 : decode cX8_addName 46 = .ok (.iinc 4 1, 3) := by decide +kernel
theorem dX8_addName_49 : decode cX8_addName 49 = .ok (.goto (-19), 3) := by decide +kernel
theorem dX8_addName_52 : decode cX8_addName 52 = .ok (.iload 4, 2) := by decide +kernel
theorem dX8_addName_54 : decode cX8_addName 54 = .ok (.iload_n 2, 1) := by decide +kernel
theorem dX8_addName_55 : decode cX8_addName 55 = .ok (.isub, 1) := by decide +kernel
theorem dX8_addName_56 : decode cX8_addName 56 = .ok (.bipush 8, 2) := by decide +kernel
theorem dX8_addName_58 : decode cX8_addName 58 = .ok (.if_icmp .le 12, 3) := by decide +kernel
theorem dX8_addName_61 : decode cX8_addName 61 = .ok (.aload_n 0, 1) := by decide +kernel
theorem dX8_addName_62 : decode cX8_addName 62 = .ok (.iconst 1, 1) := by decide +kernel
theorem dX8_addName_63 : decode cX8_addName 63 = .ok (.iconst 0, 1) := by decide +kernel
theorem dX8_addName_64 : decode cX8_addName 64 = .ok (.iload_n 2, 1) := by decide +kernel
theorem dX8_addName_65 : decode cX8_addName 65 = .ok (.invokevirtual 44, 3) := by decide +kernel
theorem dX8_addName_68 : decode cX8_addName 68 = .ok (.iload_n 3, 1) := by decide +kernel
theorem dX8_addName_69 : decode cX8_addName 69 = .ok (.ireturn, 1) := by decide +kernel
theorem dX8_addName_70 : decode cX8_addName 70 = .ok (.aload_n 1, 1) := by decide +kernel
theorem dX8_addName_71 : decode cX8_addName 71 = .ok (.iload_n 2, 1) := by decide +kernel
theorem dX8_addName_72 : decode cX8_addName 72 = .ok (.iload 4, 2) := by decide +kernel
theorem dX8_addName_74 : decode cX8_addName 74 = .ok (.invokestatic 52, 3) := by decide +kernel
theorem dX8_addName_77 : decode cX8_addName 77 = .ok (.istore 5, 2) := by decide +kernel
theorem dX8_addName_79 : decode cX8_addName 79 = .ok (.iload 5, 2) := by decide +kernel
theorem dX8_addName_81 : decode cX8_addName 81 = .ok (.iconst (-1), 1) := by decide +kernel
theorem dX8_addName_82 : decode cX8_addName 82 = .ok (.if_icmp .eq 14, 3) := by decide +kernel
theorem dX8_addName_85 : decode cX8_addName 85 = .ok (.aload_n 0, 1) := by decide +kernel
theorem dX8_addName_86 : decode cX8_addName 86 = .ok (.iconst 4, 1) := by decide +kernel
theorem dX8_addName_87 : decode cX8_addName 87 = .ok (.iload 5, 2) := by decide +kernel
theorem dX8_addName_89 : decode cX8_addName 89 = .ok (.iload_n 2, 1) := by decide +kernel
theorem dX8_addName_90 : decode cX8_addName 90 = .ok (.invokevirtual 44, 3) := by decide +kernel
theorem dX8_addName_93 : decode cX8_addName 93 = .ok (.goto 16, 3) := by decide +kernel
theorem dX8_addName_96 : decode cX8_addName 96 = .ok (.aload_n 0, 1) := by decide +kernel
theorem dX8_addName_97 : decode cX8_addName 97 = .ok (.aload_n 1, 1) := by decide +kernel
theorem dX8_addName_98 : decode cX8_addName 98 = .ok (.iload_n 2, 1) := by decide +kernel
theorem dX8_addName_99 : decode cX8_addName 99 = .ok (.iload 4, 2) := by decide +kernel
theorem dX8_addName_101 : decode cX8_addName 101 = .ok (.invokestatic 55, 3) := by decide +kernel
theorem dX8_addName_104 : decode cX8_addName 104 = .ok (.iconst 0, 1) := by decide +kernel
theorem dX8_addName_105 : decode cX8_addName 105 = .ok (.iload_n 2, 1) := by decide +kernel
theorem dX8_addName_106 : decode cX8_addName 106 = .ok (.invokevirtual 44, 3) := by decide +kernel
theorem dX8_addName_109 : decode cX8_addName 109 = .ok (.iload 4, 2) := by decide +kernel
theorem dX8_addName_111 : decode cX8_addName 111 = .ok (.ireturn, 1) := by decide +kernel
theorem dX8_isTownName_0 : decode cX8_isTownName 0 = .ok (.aload_n 0, 1) := by decide +kernel
theorem dX8_isTownName_1 : decode cX8_isTownName 1 = .ok (.iload_n 1, 1) := by decide +kernel
theorem dX8_isTownName_2 : decode cX8_isTownName 2 = .ok (.baload, 1) := by decide +kernel
theorem dX8_isTownName_3 : decode cX8_isTownName 3 = .ok (.bipush 116, 2) := by decide +kernel
theorem dX8_isTownName_5 : decode cX8_isTownName 5 = .ok (.if_icmp .ne 25, 3) := by decide +kernel
theorem dX8_isTownName_8 : decode cX8_isTownName 8 = .ok (.iload_n 1, 1) := by decide +kernel
theorem dX8_isTownName_9 : decode cX8_isTownName 9 = .ok (.iconst 1, 1) := by decide +kernel
theorem dX8_isTownName_10 : decode cX8_isTownName 10 = .ok (.iadd, 1) := by decide +kernel
theorem dX8_isTownName_11 : decode cX8_isTownName 11 = .ok (.iload_n 2, 1) := by decide +kernel
theorem dX8_isTownName_12 : decode cX8_isTownName 12 = .ok (.if_icmp .ge 18, 3) := by decide +kernel
theorem dX8_isTownName_15 : decode cX8_isTownName 15 = .ok (.aload_n 0, 1) := by decide +kernel
theorem dX8_isTownName_16 : decode cX8_isTownName 16 = .ok (.iload_n 1, 1) := by decide +kernel
theorem dX8_isTownName_17 : decode cX8_isTownName 17 = .ok (.iconst 1, 1) := by decide +kernel
theorem dX8_isTownName_18 : decode cX8_isTownName 18 = .ok (.iadd, 1) := by decide +kernel
theorem dX8_isTownName_19 : decode cX8_isTownName 19 = .ok (.baload, 1) := by decide +kernel
theorem dX8_isTownName_20 : decode cX8_isTownName 20 = .ok (.bipush 48, 2) := by decide +kernel
theorem dX8_isTownName_22 : decode cX8_isTownName 22 = .ok (.bipush 55, 2) := by decide +kernel
theorem dX8_isTownName_24 : decode cX8_isTownName 24 = .ok (.invokestatic 58, 3) := by decide +kernel
theorem dX8_isTownName_27 : decode cX8_isTownName 27 = .ok (.ifCond .ne 5, 3) := by decide +kernel
theorem dX8_isTownName_30 : decode cX8_isTownName 30 = .ok (.iconst 0, 1) := by decide +kernel
theorem dX8_isTownName_31 : decode cX8_isTownName 31 = .ok (.ireturn, 1) := by decide +kernel
theorem dX8_isTownName_32 : decode cX8_isTownName 32 = .ok (.iload_n 1, 1) := by decide +kernel
theorem dX8_isTownName_33 : decode cX8_isTownName 33 = .ok (.iconst 2, 1) := by decide +kernel
theorem dX8_isTownName_34 : decode cX8_isTownName 34 = .ok (.iadd, 1) := by decide +kernel
theorem dX8_isTownName_35 : decode cX8_isTownName 35 = .ok (.iload_n 2, 1) := by decide +kernel
theorem dX8_isTownName_36 : decode cX8_isTownName 36 = .ok (.if_icmp .ge 25, 3) := by decide +kernel
theorem dX8_isTownName_39 : decode cX8_isTownName 39 = .ok (.aload_n 0, 1) := by decide +kernel
theorem dX8_isTownName_40 : decode cX8_isTownName 40 = .ok (.iload_n 1, 1) := by decide +kernel
theorem dX8_isTownName_41 : decode cX8_isTownName 41 = .ok (.iconst 2, 1) := by decide +kernel
theorem dX8_isTownName_42 : decode cX8_isTownName 42 = .ok (.iadd, 1) := by decide +kernel
theorem dX8_isTownName_43 : decode cX8_isTownName 43 = .ok (.baload, 1) := by decide +kernel
theorem dX8_isTownName_44 : decode cX8_isTownName 44 = .ok (.invokestatic 27, 3) := by decide +kernel
theorem dX8_isTownName_47 : decode cX8_isTownName 47 = .ok (.ifCond .ne 18, 3) := by decide +kernel
theorem dX8_isTownName_50 : decode cX8_isTownName 50 = .ok (.aload_n 0, 1) := by decide +kernel
theorem dX8_isTownName_51 : decode cX8_isTownName 51 = .ok (.iload_n 1, 1) := by decide +kernel
theorem dX8_isTownName_52 : decode cX8_isTownName 52 = .ok (.iconst 2, 1) := by decide +kernel
theorem dX8_isTownName_53 : decode cX8_isTownName 53 = .ok (.iadd, 1) := by decide +kernel
theorem dX8_isTownName_54 : decode cX8_isTownName 54 = .ok (.baload, 1) := by decide +kernel
theorem dX8_isTownName_55 : decode cX8_isTownName 55 = .ok (.invokestatic 35, 3) := by decide +kernel
theorem dX8_isTownName_58 : decode cX8_isTownName 58 = .ok (.ifCond .ne 7, 3) := by decide +kernel
theorem dX8_isTownName_61 : decode cX8_isTownName 61 = .ok (.iconst 1, 1) := by decide +kernel
theorem dX8_isTownName_62 : decode cX8_isTownName 62 = .ok (.goto 4, 3) := by decide +kernel
theorem dX8_isTownName_65 : decode cX8_isTownName 65 = .ok (.iconst 0, 1) := by decide +kernel
theorem dX8_isTownName_66 : decode cX8_isTownName 66 = .ok (.ireturn, 1) := by decide +kernel
theorem dX8_kindOf_0 : decode cX8_kindOf 0 = .ok (.ldc 62, 2) := by decide +kernel
theorem dX8_kindOf_2 : decode cX8_kindOf 2 = .ok (.aload_n 0, 1) := by decide +kernel
theorem dX8_kindOf_3 : decode cX8_kindOf 3 = .ok (.iload_n 1, 1) := by decide +kernel
theorem dX8_kindOf_4 : decode cX8_kindOf 4 = .ok (.iload_n 2, 1) := by decide +kernel
theorem dX8_kindOf_5 : decode cX8_kindOf 5 = .ok (.invokestatic 64, 3) := by decide +kernel
theorem dX8_kindOf_8 : decode cX8_kindOf 8 = .ok (.ifCond .eq 5, 3) := by decide +kernel
theorem dX8_kindOf_11 : decode cX8_kindOf 11 = .ok (.iconst 0, 1) := by decide +kernel
theorem dX8_kindOf_12 : decode cX8_kindOf 12 = .ok (.ireturn, 1) := by decide +kernel
theorem dX8_kindOf_13 : decode cX8_kindOf 13 = .ok (.ldc 68, 2) := by decide +kernel
theorem dX8_kindOf_15 : decode cX8_kindOf 15 = .ok (.aload_n 0, 1) := by decide +kernel
theorem dX8_kindOf_16 : decode cX8_kindOf 16 = .ok (.iload_n 1, 1) := by decide +kernel
theorem dX8_kindOf_17 : decode cX8_kindOf 17 = .ok (.iload_n 2, 1) := by decide +kernel
theorem dX8_kindOf_18 : decode cX8_kindOf 18 = .ok (.invokestatic 64, 3) := by decide +kernel
theorem dX8_kindOf_21 : decode cX8_kindOf 21 = .ok (.ifCond .eq 5, 3) := by decide +kernel
theorem dX8_kindOf_24 : decode cX8_kindOf 24 = .ok (.iconst 1, 1) := by decide +kernel
theorem dX8_kindOf_25 : decode cX8_kindOf 25 = .ok (.ireturn, 1) := by decide +kernel
theorem dX8_kindOf_26 : decode cX8_kindOf 26 = .ok (.ldc 70, 2) := by decide +kernel
theorem dX8_kindOf_28 : decode cX8_kindOf 28 = .ok (.aload_n 0, 1) := by decide +kernel
theorem dX8_kindOf_29 : decode cX8_kindOf 29 = .ok (.iload_n 1, 1) := by decide +kernel
theorem dX8_kindOf_30 : decode cX8_kindOf 30 = .ok (.iload_n 2, 1) := by decide +kernel
theorem dX8_kindOf_31 : decode cX8_kindOf 31 = .ok (.invokestatic 64, 3) := by decide +kernel
theorem dX8_kindOf_34 : decode cX8_kindOf 34 = .ok (.ifCond .eq 5, 3) := by decide +kernel
theorem dX8_kindOf_37 : decode cX8_kindOf 37 = .ok (.iconst 2, 1) := by decide +kernel
theorem dX8_kindOf_38 : decode cX8_kindOf 38 = .ok (.ireturn, 1) := by decide +kernel
theorem dX8_kindOf_39 : decode cX8_kindOf 39 = .ok (.iconst (-1), 1) := by decide +kernel
theorem dX8_kindOf_40 : decode cX8_kindOf 40 = .ok (.ireturn, 1) := by decide +kernel
theorem dX8_wordOf_0 : decode cX8_wordOf 0 = .ok (.ldc 72, 2) := by decide +kernel
theorem dX8_wordOf_2 : decode cX8_wordOf 2 = .ok (.aload_n 0, 1) := by decide +kernel
theorem dX8_wordOf_3 : decode cX8_wordOf 3 = .ok (.iload_n 1, 1) := by decide +kernel
theorem dX8_wordOf_4 : decode cX8_wordOf 4 = .ok (.iload_n 2, 1) := by decide +kernel
theorem dX8_wordOf_5 : decode cX8_wordOf 5 = .ok (.invokestatic 64, 3) := by decide +kernel
theorem dX8_wordOf_8 : decode cX8_wordOf 8 = .ok (.ifCond .eq 6, 3) := by decide +kernel
theorem dX8_wordOf_11 : decode cX8_wordOf 11 = .ok (.bipush 6, 2) := by decide +kernel
theorem dX8_wordOf_13 : decode cX8_wordOf 13 = .ok (.ireturn, 1) := by decide +kernel
theorem dX8_wordOf_14 : decode cX8_wordOf 14 = .ok (.ldc 74, 2) := by decide +kernel
theorem dX8_wordOf_16 : decode cX8_wordOf 16 = .ok (.aload_n 0, 1) := by decide +kernel
theorem dX8_wordOf_17 : decode cX8_wordOf 17 = .ok (.iload_n 1, 1) := by decide +kernel
theorem dX8_wordOf_18 : decode cX8_wordOf 18 = .ok (.iload_n 2, 1) := by decide +kernel
theorem dX8_wordOf_19 : decode cX8_wordOf 19 = .ok (.invokestatic 64, 3) := by decide +kernel
theorem dX8_wordOf_22 : decode cX8_wordOf 22 = .ok (.ifCond .eq 6, 3) := by decide +kernel
theorem dX8_wordOf_25 : decode cX8_wordOf 25 = .ok (.bipush 7, 2) := by decide +kernel
theorem dX8_wordOf_27 : decode cX8_wordOf 27 = .ok (.ireturn, 1) := by decide +kernel
theorem dX8_wordOf_28 : decode cX8_wordOf 28 = .ok (.ldc 76, 2) := by decide +kernel
theorem dX8_wordOf_30 : decode cX8_wordOf 30 = .ok (.aload_n 0, 1) := by decide +kernel
theorem dX8_wordOf_31 : decode cX8_wordOf 31 = .ok (.iload_n 1, 1) := by decide +kernel
theorem dX8_wordOf_32 : decode cX8_wordOf 32 = .ok (.iload_n 2, 1) := by decide +kernel
theorem dX8_wordOf_33 : decode cX8_wordOf 33 = .ok (.invokestatic 64, 3) := by decide +kernel
theorem dX8_wordOf_36 : decode cX8_wordOf 36 = .ok (.ifCond .eq 6, 3) := by decide +kernel
theorem dX8_wordOf_39 : decode cX8_wordOf 39 = .ok (.bipush 8, 2) := by decide +kernel
theorem dX8_wordOf_41 : decode cX8_wordOf 41 = .ok (.ireturn, 1) := by decide +kernel
theorem dX8_wordOf_42 : decode cX8_wordOf 42 = .ok (.ldc 78, 2) := by decide +kernel
theorem dX8_wordOf_44 : decode cX8_wordOf 44 = .ok (.aload_n 0, 1) := by decide +kernel
theorem dX8_wordOf_45 : decode cX8_wordOf 45 = .ok (.iload_n 1, 1) := by decide +kernel
theorem dX8_wordOf_46 : decode cX8_wordOf 46 = .ok (.iload_n 2, 1) := by decide +kernel
theorem dX8_wordOf_47 : decode cX8_wordOf 47 = .ok (.invokestatic 64, 3) := by decide +kernel
theorem dX8_wordOf_50 : decode cX8_wordOf 50 = .ok (.ifCond .eq 6, 3) := by decide +kernel
theorem dX8_wordOf_53 : decode cX8_wordOf 53 = .ok (.bipush 9, 2) := by decide +kernel
theorem dX8_wordOf_55 : decode cX8_wordOf 55 = .ok (.ireturn, 1) := by decide +kernel
theorem dX8_wordOf_56 : decode cX8_wordOf 56 = .ok (.ldc 80, 2) := by decide +kernel
theorem dX8_wordOf_58 : decode cX8_wordOf 58 = .ok (.aload_n 0, 1) := by decide +kernel
theorem dX8_wordOf_59 : decode cX8_wordOf 59 = .ok (.iload_n 1, 1) := by decide +kernel
theorem dX8_wordOf_60 : decode cX8_wordOf 60 = .ok (.iload_n 2, 1) := by decide +kernel
theorem dX8_wordOf_61 : decode cX8_wordOf 61 = .ok (.invokestatic 64, 3) := by decide +kernel
theorem dX8_wordOf_64 : decode cX8_wordOf 64 = .ok (.ifCond .eq 6, 3) := by decide +kernel
theorem dX8_wordOf_67 : decode cX8_wordOf 67 = .ok (.bipush 10, 2) := by decide +kernel
theorem dX8_wordOf_69 : decode cX8_wordOf 69 = .ok (.ireturn, 1) := by decide +kernel
theorem dX8_wordOf_70 : decode cX8_wordOf 70 = .ok (.ldc 82, 2) := by decide +kernel
theorem dX8_wordOf_72 : decode cX8_wordOf 72 = .ok (.aload_n 0, 1) := by decide +kernel
theorem dX8_wordOf_73 : decode cX8_wordOf 73 = .ok (.iload_n 1, 1) := by decide +kernel
theorem dX8_wordOf_74 : decode cX8_wordOf 74 = .ok (.iload_n 2, 1) := by decide +kernel
theorem dX8_wordOf_75 : decode cX8_wordOf 75 = .ok (.invokestatic 64, 3) := by decide +kernel
theorem dX8_wordOf_78 : decode cX8_wordOf 78 = .ok (.ifCond .eq 6, 3) := by decide +kernel
theorem dX8_wordOf_81 : decode cX8_wordOf 81 = .ok (.bipush 11, 2) := by decide +kernel
theorem dX8_wordOf_83 : decode cX8_wordOf 83 = .ok (.ireturn, 1) := by decide +kernel
theorem dX8_wordOf_84 : decode cX8_wordOf 84 = .ok (.ldc 84, 2) := by decide +kernel
theorem dX8_wordOf_86 : decode cX8_wordOf 86 = .ok (.aload_n 0, 1) := by decide +kernel
theorem dX8_wordOf_87 : decode cX8_wordOf 87 = .ok (.iload_n 1, 1) := by decide +kernel
theorem dX8_wordOf_88 : decode cX8_wordOf 88 = .ok (.iload_n 2, 1) := by decide +kernel
theorem dX8_wordOf_89 : decode cX8_wordOf 89 = .ok (.invokestatic 64, 3) := by decide +kernel
theorem dX8_wordOf_92 : decode cX8_wordOf 92 = .ok (.ifCond .eq 6, 3) := by decide +kernel
theorem dX8_wordOf_95 : decode cX8_wordOf 95 = .ok (.bipush 12, 2) := by decide +kernel
theorem dX8_wordOf_97 : decode cX8_wordOf 97 = .ok (.ireturn, 1) := by decide +kernel
theorem dX8_wordOf_98 : decode cX8_wordOf 98 = .ok (.ldc 86, 2) := by decide +kernel
theorem dX8_wordOf_100 : decode cX8_wordOf 100 = .ok (.aload_n 0, 1) := by decide +kernel
theorem dX8_wordOf_101 : decode cX8_wordOf 101 = .ok (.iload_n 1, 1) := by decide +kernel
theorem dX8_wordOf_102 : decode cX8_wordOf 102 = .ok (.iload_n 2, 1) := by decide +kernel
theorem dX8_wordOf_103 : decode cX8_wordOf 103 = .ok (.invokestatic 64, 3) := by decide +kernel
theorem dX8_wordOf_106 : decode cX8_wordOf 106 = .ok (.ifCond .eq 6, 3) := by decide +kernel
theorem dX8_wordOf_109 : decode cX8_wordOf 109 = .ok (.bipush 13, 2) := by decide +kernel
theorem dX8_wordOf_111 : decode cX8_wordOf 111 = .ok (.ireturn, 1) := by decide +kernel
theorem dX8_wordOf_112 : decode cX8_wordOf 112 = .ok (.ldc 88, 2) := by decide +kernel
theorem dX8_wordOf_114 : decode cX8_wordOf 114 = .ok (.aload_n 0, 1) := by decide +kernel
theorem dX8_wordOf_115 : decode cX8_wordOf 115 = .ok (.iload_n 1, 1) := by decide +kernel
end
section
theorem dX8_wordOf_116 : decode cX8_wordOf 116 = .ok (.iload_n 2, 1) := by decide +kernel
theorem dX8_wordOf_117 : decode cX8_wordOf 117 = .ok (.invokestatic 64, 3) := by decide +kernel
theorem dX8_wordOf_120 : decode cX8_wordOf 120 = .ok (.ifCond .eq 6, 3) := by decide +kernel
theorem dX8_wordOf_123 : decode cX8_wordOf 123 = .ok (.bipush 14, 2) := by decide +kernel
theorem dX8_wordOf_125 : decode cX8_wordOf 125 = .ok (.ireturn, 1) := by decide +kernel
theorem dX8_wordOf_126 : decode cX8_wordOf 126 = .ok (.ldc 90, 2) := by decide +kernel
theorem dX8_wordOf_128 : decode cX8_wordOf 128 = .ok (.aload_n 0, 1) := by decide +kernel
theorem dX8_wordOf_129 : decode cX8_wordOf 129 = .ok (.iload_n 1, 1) := by decide +kernel
theorem dX8_wordOf_130 : decode cX8_wordOf 130 = .ok (.iload_n 2, 1) := by decide +kernel
theorem dX8_wordOf_131 : decode cX8_wordOf 131 = .ok (.invokestatic 64, 3) := by decide +kernel
theorem dX8_wordOf_134 : decode cX8_wordOf 134 = .ok (.ifCond .eq 6, 3) := by decide +kernel
theorem dX8_wordOf_137 : decode cX8_wordOf 137 = .ok (.bipush 15, 2) := by decide +kernel
theorem dX8_wordOf_139 : decode cX8_wordOf 139 = .ok (.ireturn, 1) := by decide +kernel
theorem dX8_wordOf_140 : decode cX8_wordOf 140 = .ok (.ldc 92, 2) := by decide +kernel
theorem dX8_wordOf_142 : decode cX8_wordOf 142 = .ok (.aload_n 0, 1) := by decide +kernel
theorem dX8_wordOf_143 : decode cX8_wordOf 143 = .ok (.iload_n 1, 1) := by decide +kernel
theorem dX8_wordOf_144 : decode cX8_wordOf 144 = .ok (.iload_n 2, 1) := by decide +kernel
theorem dX8_wordOf_145 : decode cX8_wordOf 145 = .ok (.invokestatic 64, 3) := by decide +kernel
theorem dX8_wordOf_148 : decode cX8_wordOf 148 = .ok (.ifCond .eq 6, 3) := by decide +kernel
theorem dX8_wordOf_151 : decode cX8_wordOf 151 = .ok (.bipush 16, 2) := by decide +kernel
theorem dX8_wordOf_153 : decode cX8_wordOf 153 = .ok (.ireturn, 1) := by decide +kernel
theorem dX8_wordOf_154 : decode cX8_wordOf 154 = .ok (.ldc 94, 2) := by decide +kernel
theorem dX8_wordOf_156 : decode cX8_wordOf 156 = .ok (.aload_n 0, 1) := by decide +kernel
theorem dX8_wordOf_157 : decode cX8_wordOf 157 = .ok (.iload_n 1, 1) := by decide +kernel
theorem dX8_wordOf_158 : decode cX8_wordOf 158 = .ok (.iload_n 2, 1) := by decide +kernel
theorem dX8_wordOf_159 : decode cX8_wordOf 159 = .ok (.invokestatic 64, 3) := by decide +kernel
theorem dX8_wordOf_162 : decode cX8_wordOf 162 = .ok (.ifCond .eq 6, 3) := by decide +kernel
theorem dX8_wordOf_165 : decode cX8_wordOf 165 = .ok (.bipush 17, 2) := by decide +kernel
theorem dX8_wordOf_167 : decode cX8_wordOf 167 = .ok (.ireturn, 1) := by decide +kernel
theorem dX8_wordOf_168 : decode cX8_wordOf 168 = .ok (.iconst 5, 1) := by decide +kernel
theorem dX8_wordOf_169 : decode cX8_wordOf 169 = .ok (.ireturn, 1) := by decide +kernel
theorem dX8_spells_0 : decode cX8_spells 0 = .ok (.iload_n 3, 1) := by decide +kernel
theorem dX8_spells_1 : decode cX8_spells 1 = .ok (.iload_n 2, 1) := by decide +kernel
theorem dX8_spells_2 : decode cX8_spells 2 = .ok (.isub, 1) := by decide +kernel
theorem dX8_spells_3 : decode cX8_spells 3 = .ok (.aload_n 0, 1) := by decide +kernel
theorem dX8_spells_4 : decode cX8_spells 4 = .ok (.invokevirtual 96, 3) := by decide +kernel
theorem dX8_spells_7 : decode cX8_spells 7 = .ok (.if_icmp .ne 9, 3) := by decide +kernel
theorem dX8_spells_10 : decode cX8_spells 10 = .ok (.iload_n 3, 1) := by decide +kernel
theorem dX8_spells_11 : decode cX8_spells 11 = .ok (.aload_n 1, 1) := by decide +kernel
theorem dX8_spells_12 : decode cX8_spells 12 = .ok (.arraylength, 1) := by decide +kernel
theorem dX8_spells_13 : decode cX8_spells 13 = .ok (.if_icmp .le 5, 3) := by decide +kernel
theorem dX8_spells_16 : decode cX8_spells 16 = .ok (.iconst 0, 1) := by decide +kernel
theorem dX8_spells_17 : decode cX8_spells 17 = .ok (.ireturn, 1) := by decide +kernel
theorem dX8_spells_18 : decode cX8_spells 18 = .ok (.iconst 0, 1) := by decide +kernel
theorem dX8_spells_19 : decode cX8_spells 19 = .ok (.istore 4, 2) := by decide +kernel
theorem dX8_spells_21 : decode cX8_spells 21 = .ok (.iload 4, 2) := by decide +kernel
theorem dX8_spells_23 : decode cX8_spells 23 = .ok (.aload_n 0, 1) := by decide +kernel
theorem dX8_spells_24 : decode cX8_spells 24 = .ok (.invokevirtual 96, 3) := by decide +kernel
theorem dX8_spells_27 : decode cX8_spells 27 = .ok (.if_icmp .ge 26, 3) := by decide +kernel
theorem dX8_spells_30 : decode cX8_spells 30 = .ok (.aload_n 1, 1) := by decide +kernel
theorem dX8_spells_31 : decode cX8_spells 31 = .ok (.iload_n 2, 1) := by decide +kernel
theorem dX8_spells_32 : decode cX8_spells 32 = .ok (.iload 4, 2) := by decide +kernel
theorem dX8_spells_34 : decode cX8_spells 34 = .ok (.iadd, 1) := by decide +kernel
theorem dX8_spells_35 : decode cX8_spells 35 = .ok (.baload, 1) := by decide +kernel
theorem dX8_spells_36 : decode cX8_spells 36 = .ok (.aload_n 0, 1) := by decide +kernel
theorem dX8_spells_37 : decode cX8_spells 37 = .ok (.iload 4, 2) := by decide +kernel
theorem dX8_spells_39 : decode cX8_spells 39 = .ok (.invokevirtual 102, 3) := by decide +kernel
theorem dX8_spells_42 : decode cX8_spells 42 = .ok (.if_icmp .eq 5, 3) := by decide +kernel
theorem dX8_spells_45 : decode cX8_spells 45 = .ok (.iconst 0, 1) := by decide +kernel
theorem dX8_spells_46 : decode cX8_spells 46 = .ok (.ireturn, 1) := by decide +kernel
theorem dX8_spells_47 : decode cX8_spells 47 = .ok (.iinc 4 1, 3) := by decide +kernel
theorem dX8_spells_50 : decode cX8_spells 50 = .ok (.goto (-29), 3) := by decide +kernel
theorem dX8_spells_53 : decode cX8_spells 53 = .ok (.iconst 1, 1) := by decide +kernel
theorem dX8_spells_54 : decode cX8_spells 54 = .ok (.ireturn, 1) := by decide +kernel
theorem dX8_isLetter_0 : decode cX8_isLetter 0 = .ok (.iload_n 0, 1) := by decide +kernel
theorem dX8_isLetter_1 : decode cX8_isLetter 1 = .ok (.bipush 97, 2) := by decide +kernel
theorem dX8_isLetter_3 : decode cX8_isLetter 3 = .ok (.bipush 122, 2) := by decide +kernel
theorem dX8_isLetter_5 : decode cX8_isLetter 5 = .ok (.invokestatic 58, 3) := by decide +kernel
theorem dX8_isLetter_8 : decode cX8_isLetter 8 = .ok (.ireturn, 1) := by decide +kernel
theorem dX8_isDigit_0 : decode cX8_isDigit 0 = .ok (.iload_n 0, 1) := by decide +kernel
theorem dX8_isDigit_1 : decode cX8_isDigit 1 = .ok (.bipush 48, 2) := by decide +kernel
theorem dX8_isDigit_3 : decode cX8_isDigit 3 = .ok (.bipush 57, 2) := by decide +kernel
theorem dX8_isDigit_5 : decode cX8_isDigit 5 = .ok (.invokestatic 58, 3) := by decide +kernel
theorem dX8_isDigit_8 : decode cX8_isDigit 8 = .ok (.ireturn, 1) := by decide +kernel
theorem dX8_isSign_0 : decode cX8_isSign 0 = .ok (.iload_n 0, 1) := by decide +kernel
theorem dX8_isSign_1 : decode cX8_isSign 1 = .ok (.tableswitch 109 40 62 #[107, 107, 109, 107, 109, 107, 109, 109, 109, 109, 109, 109, 109, 109, 109, 109, 109, 109, 109, 107, 107, 107, 107], 107) := by decide +kernel
theorem dX8_isSign_108 : decode cX8_isSign 108 = .ok (.iconst 1, 1) := by decide +kernel
theorem dX8_isSign_109 : decode cX8_isSign 109 = .ok (.ireturn, 1) := by decide +kernel
theorem dX8_isSign_110 : decode cX8_isSign 110 = .ok (.iconst 0, 1) := by decide +kernel
theorem dX8_isSign_111 : decode cX8_isSign 111 = .ok (.ireturn, 1) := by decide +kernel
theorem dX9_init_0 : decode cX9_init 0 = .ok (.aload_n 0, 1) := by decide +kernel
theorem dX9_init_1 : decode cX9_init 1 = .ok (.invokespecial 3, 3) := by decide +kernel
theorem dX9_init_4 : decode cX9_init 4 = .ok (.aload_n 0, 1) := by decide +kernel
theorem dX9_init_5 : decode cX9_init 5 = .ok (.iconst 3, 1) := by decide +kernel
theorem dX9_init_6 : decode cX9_init 6 = .ok (.newarray .int, 2) := by decide +kernel
theorem dX9_init_8 : decode cX9_init 8 = .ok (.putfield 9, 3) := by decide +kernel
theorem dX9_init_11 : decode cX9_init 11 = .ok (.aload_n 0, 1) := by decide +kernel
theorem dX9_init_12 : decode cX9_init 12 = .ok (.iconst 3, 1) := by decide +kernel
theorem dX9_init_13 : decode cX9_init 13 = .ok (.bipush 61, 2) := by decide +kernel
theorem dX9_init_15 : decode cX9_init 15 = .ok (.multianewarray 15 2, 4) := by decide +kernel
theorem dX9_init_19 : decode cX9_init 19 = .ok (.putfield 17, 3) := by decide +kernel
theorem dX9_init_22 : decode cX9_init 22 = .ok (.return_, 1) := by decide +kernel
theorem dX9_roomLeft_0 : decode cX9_roomLeft 0 = .ok (.aload_n 0, 1) := by decide +kernel
theorem dX9_roomLeft_1 : decode cX9_roomLeft 1 = .ok (.getfield 20, 3) := by decide +kernel
theorem dX9_roomLeft_4 : decode cX9_roomLeft 4 = .ok (.aload_n 0, 1) := by decide +kernel
theorem dX9_roomLeft_5 : decode cX9_roomLeft 5 = .ok (.getfield 9, 3) := by decide +kernel
theorem dX9_roomLeft_8 : decode cX9_roomLeft 8 = .ok (.iconst 0, 1) := by decide +kernel
theorem dX9_roomLeft_9 : decode cX9_roomLeft 9 = .ok (.iaload, 1) := by decide +kernel
theorem dX9_roomLeft_10 : decode cX9_roomLeft 10 = .ok (.isub, 1) := by decide +kernel
theorem dX9_roomLeft_11 : decode cX9_roomLeft 11 = .ok (.aload_n 0, 1) := by decide +kernel
theorem dX9_roomLeft_12 : decode cX9_roomLeft 12 = .ok (.getfield 9, 3) := by decide +kernel
theorem dX9_roomLeft_15 : decode cX9_roomLeft 15 = .ok (.iconst 1, 1) := by decide +kernel
theorem dX9_roomLeft_16 : decode cX9_roomLeft 16 = .ok (.iaload, 1) := by decide +kernel
theorem dX9_roomLeft_17 : decode cX9_roomLeft 17 = .ok (.isub, 1) := by decide +kernel
theorem dX9_roomLeft_18 : decode cX9_roomLeft 18 = .ok (.aload_n 0, 1) := by decide +kernel
theorem dX9_roomLeft_19 : decode cX9_roomLeft 19 = .ok (.getfield 9, 3) := by decide +kernel
theorem dX9_roomLeft_22 : decode cX9_roomLeft 22 = .ok (.iconst 2, 1) := by decide +kernel
theorem dX9_roomLeft_23 : decode cX9_roomLeft 23 = .ok (.iaload, 1) := by decide +kernel
theorem dX9_roomLeft_24 : decode cX9_roomLeft 24 = .ok (.isub, 1) := by decide +kernel
theorem dX9_roomLeft_25 : decode cX9_roomLeft 25 = .ok (.ireturn, 1) := by decide +kernel
theorem dX9_store_0 : decode cX9_store 0 = .ok (.iload_n 3, 1) := by decide +kernel
theorem dX9_store_1 : decode cX9_store 1 = .ok (.aload_n 0, 1) := by decide +kernel
theorem dX9_store_2 : decode cX9_store 2 = .ok (.invokevirtual 24, 3) := by decide +kernel
theorem dX9_store_5 : decode cX9_store 5 = .ok (.invokestatic 28, 3) := by decide +kernel
theorem dX9_store_8 : decode cX9_store 8 = .ok (.istore 4, 2) := by decide +kernel
theorem dX9_store_10 : decode cX9_store 10 = .ok (.aload_n 0, 1) := by decide +kernel
theorem dX9_store_11 : decode cX9_store 11 = .ok (.getfield 17, 3) := by decide +kernel
theorem dX9_store_14 : decode cX9_store 14 = .ok (.iload_n 1, 1) := by decide +kernel
theorem dX9_store_15 : decode cX9_store 15 = .ok (.aaload, 1) := by decide +kernel
theorem dX9_store_16 : decode cX9_store 16 = .ok (.iload_n 2, 1) := by decide +kernel
theorem dX9_store_17 : decode cX9_store 17 = .ok (.dup2, 1) := by decide +kernel
theorem dX9_store_18 : decode cX9_store 18 = .ok (.iaload, 1) := by decide +kernel
theorem dX9_store_19 : decode cX9_store 19 = .ok (.iload 4, 2) := by decide +kernel
theorem dX9_store_21 : decode cX9_store 21 = .ok (.iadd, 1) := by decide +kernel
theorem dX9_store_22 : decode cX9_store 22 = .ok (.iastore, 1) := by decide +kernel
theorem dX9_store_23 : decode cX9_store 23 = .ok (.aload_n 0, 1) := by decide +kernel
theorem dX9_store_24 : decode cX9_store 24 = .ok (.getfield 9, 3) := by decide +kernel
theorem dX9_store_27 : decode cX9_store 27 = .ok (.iload_n 1, 1) := by decide +kernel
theorem dX9_store_28 : decode cX9_store 28 = .ok (.dup2, 1) := by decide +kernel
theorem dX9_store_29 : decode cX9_store 29 = .ok (.iaload, 1) := by decide +kernel
theorem dX9_store_30 : decode cX9_store 30 = .ok (.iload 4, 2) := by decide +kernel
theorem dX9_store_32 : decode cX9_store 32 = .ok (.iadd, 1) := by decide +kernel
theorem dX9_store_33 : decode cX9_store 33 = .ok (.iastore, 1) := by decide +kernel
theorem dX9_store_34 : decode cX9_store 34 = .ok (.iload 4, 2) := by decide +kernel
theorem dX9_store_36 : decode cX9_store 36 = .ok (.ireturn, 1) := by decide +kernel
theorem dX9_removeOfAge_0 : decode cX9_removeOfAge 0 = .ok (.iload_n 3, 1) := by decide +kernel
theorem dX9_removeOfAge_1 : decode cX9_removeOfAge 1 = .ok (.aload_n 0, 1) := by decide +kernel
theorem dX9_removeOfAge_2 : decode cX9_removeOfAge 2 = .ok (.getfield 17, 3) := by decide +kernel
theorem dX9_removeOfAge_5 : decode cX9_removeOfAge 5 = .ok (.iload_n 1, 1) := by decide +kernel
theorem dX9_removeOfAge_6 : decode cX9_removeOfAge 6 = .ok (.aaload, 1) := by decide +kernel
theorem dX9_removeOfAge_7 : decode cX9_removeOfAge 7 = .ok (.iload_n 2, 1) := by decide +kernel
theorem dX9_removeOfAge_8 : decode cX9_removeOfAge 8 = .ok (.iaload, 1) := by decide +kernel
theorem dX9_removeOfAge_9 : decode cX9_removeOfAge 9 = .ok (.invokestatic 28, 3) := by decide +kernel
theorem dX9_removeOfAge_12 : decode cX9_removeOfAge 12 = .ok (.istore 4, 2) := by decide +kernel
theorem dX9_removeOfAge_14 : decode cX9_removeOfAge 14 = .ok (.aload_n 0, 1) := by decide +kernel
theorem dX9_removeOfAge_15 : decode cX9_removeOfAge 15 = .ok (.getfield 17, 3) := by decide +kernel
theorem dX9_removeOfAge_18 : decode cX9_removeOfAge 18 = .ok (.iload_n 1, 1) := by decide +kernel
theorem dX9_removeOfAge_19 : decode cX9_removeOfAge 19 = .ok (.aaload, 1) := by decide +kernel
theorem dX9_removeOfAge_20 : decode cX9_removeOfAge 20 = .ok (.iload_n 2, 1) := by decide +kernel
theorem dX9_removeOfAge_21 : decode cX9_removeOfAge 21 = .ok (.dup2, 1) := by decide +kernel
theorem dX9_removeOfAge_22 : decode cX9_removeOfAge 22 = .ok (.iaload, 1) := by decide +kernel
theorem dX9_removeOfAge_23 : decode cX9_removeOfAge 23 = .ok (.iload 4, 2) := by decide +kernel
theorem dX9_removeOfAge_25 : decode cX9_removeOfAge 25 = .ok (.isub, 1) := by decide +kernel
theorem dX9_removeOfAge_26 : decode cX9_removeOfAge 26 = .ok (.iastore, 1) := by decide +kernel
theorem dX9_removeOfAge_27 : decode cX9_removeOfAge 27 = .ok (.aload_n 0, 1) := by decide +kernel
theorem dX9_removeOfAge_28 : decode cX9_removeOfAge 28 = .ok (.getfield 9, 3) := by decide +kernel
theorem dX9_removeOfAge_31 : decode cX9_removeOfAge 31 = .ok (.iload_n 1, 1) := by decide +kernel
theorem dX9_removeOfAge_32 : decode cX9_removeOfAge 32 = .ok (.dup2, 1) := by decide +kernel
theorem dX9_removeOfAge_33 : decode cX9_removeOfAge 33 = .ok (.iaload, 1) := by decide +kernel
theorem dX9_removeOfAge_34 : decode cX9_removeOfAge 34 = .ok (.iload 4, 2) := by decide +kernel
theorem dX9_removeOfAge_36 : decode cX9_removeOfAge 36 = .ok (.isub, 1) := by decide +kernel
theorem dX9_removeOfAge_37 : decode cX9_removeOfAge 37 = .ok (.iastore, 1) := by decide +kernel
theorem dX9_removeOfAge_38 : decode cX9_removeOfAge 38 = .ok (.iload 4, 2) := by decide +kernel
theorem dX9_removeOfAge_40 : decode cX9_removeOfAge 40 = .ok (.ireturn, 1) := by decide +kernel
theorem dX9_removeOldest_0 : decode cX9_removeOldest 0 = .ok (.iload_n 2, 1) := by decide +kernel
theorem dX9_removeOldest_1 : decode cX9_removeOldest 1 = .ok (.aload_n 0, 1) := by decide +kernel
theorem dX9_removeOldest_2 : decode cX9_removeOldest 2 = .ok (.getfield 9, 3) := by decide +kernel
theorem dX9_removeOldest_5 : decode cX9_removeOldest 5 = .ok (.iload_n 1, 1) := by decide +kernel
theorem dX9_removeOldest_6 : decode cX9_removeOldest 6 = .ok (.iaload, 1) := by decide +kernel
theorem dX9_removeOldest_7 : decode cX9_removeOldest 7 = .ok (.invokestatic 28, 3) := by decide +kernel
theorem dX9_removeOldest_10 : decode cX9_removeOldest 10 = .ok (.istore_n 3, 1) := by decide +kernel
theorem dX9_removeOldest_11 : decode cX9_removeOldest 11 = .ok (.iconst 0, 1) := by decide +kernel
theorem dX9_removeOldest_12 : decode cX9_removeOldest 12 = .ok (.istore 4, 2) := by decide +kernel
theorem dX9_removeOldest_14 : decode cX9_removeOldest 14 = .ok (.bipush 60, 2) := by decide +kernel
theorem dX9_removeOldest_16 : decode cX9_removeOldest 16 = .ok (.istore 5, 2) := by decide +kernel
theorem dX9_removeOldest_18 : decode cX9_removeOldest 18 = .ok (.iload 5, 2) := by decide +kernel
theorem dX9_removeOldest_20 : decode cX9_removeOldest 20 = .ok (.ifCond .lt 35, 3) := by decide +kernel
theorem dX9_removeOldest_23 : decode cX9_removeOldest 23 = .ok (.iload_n 3, 1) := by decide +kernel
theorem dX9_removeOldest_24 : decode cX9_removeOldest 24 = .ok (.ifCond .le 31, 3) := by decide +kernel
theorem dX9_removeOldest_27 : decode cX9_removeOldest 27 = .ok (.aload_n 0, 1) := by decide +kernel
theorem dX9_removeOldest_28 : decode cX9_removeOldest 28 = .ok (.iload_n 1, 1) := by decide +kernel
theorem dX9_removeOldest_29 : decode cX9_removeOldest 29 = .ok (.iload 5, 2) := by decide +kernel
theorem dX9_removeOldest_31 : decode cX9_removeOldest 31 = .ok (.iload_n 3, 1) := by decide +kernel
theorem dX9_removeOldest_32 : decode cX9_removeOldest 32 = .ok (.invokevirtual 34, 3) := by decide +kernel
theorem dX9_removeOldest_35 : decode cX9_removeOldest 35 = .ok (.istore 6, 2) := by decide +kernel
theorem dX9_removeOldest_37 : decode cX9_removeOldest 37 = .ok (.iload 4, 2) := by decide +kernel
theorem dX9_removeOldest_39 : decode cX9_removeOldest 39 = .ok (.iload 6, 2) := by decide +kernel
theorem dX9_removeOldest_41 : decode cX9_removeOldest 41 = .ok (.iadd, 1) := by decide +kernel
theorem dX9_removeOldest_42 : decode cX9_removeOldest 42 = .ok (.istore 4, 2) := by decide +kernel
theorem dX9_removeOldest_44 : decode cX9_removeOldest 44 = .ok (.iload_n 3, 1) := by decide +kernel
theorem dX9_removeOldest_45 : decode cX9_removeOldest 45 = .ok (.iload 6, 2) := by decide +kernel
theorem dX9_removeOldest_47 : decode cX9_removeOldest 47 = .ok (.isub, 1) := by decide +kernel
theorem dX9_removeOldest_48 : decode cX9_removeOldest 48 = .ok (.istore_n 3, 1) := by decide +kernel
theorem dX9_removeOldest_49 : decode cX9_removeOldest 49 = .ok (.iinc 5 (-1), 3) := by decide +kernel
theorem dX9_removeOldest_52 : decode cX9_removeOldest 52 = .ok (.goto (-34), 3) := by decide +kernel
theorem dX9_removeOldest_55 : decode cX9_removeOldest 55 = .ok (.iload 4, 2) := by decide +kernel
theorem dX9_removeOldest_57 : decode cX9_removeOldest 57 = .ok (.ireturn, 1) := by decide +kernel
theorem dX9_measuresOfTheOldest_0 : decode cX9_measuresOfTheOldest 0 = .ok (.bipush 60, 2) := by decide +kernel
theorem dX9_measuresOfTheOldest_2 : decode cX9_measuresOfTheOldest 2 = .ok (.istore_n 2, 1) := by decide +kernel
theorem dX9_measuresOfTheOldest_3 : decode cX9_measuresOfTheOldest 3 = .ok (.iload_n 2, 1) := by decide +kernel
theorem dX9_measuresOfTheOldest_4 : decode cX9_measuresOfTheOldest 4 = .ok (.ifCond .lt 38, 3) := by decide +kernel
theorem dX9_measuresOfTheOldest_7 : decode cX9_measuresOfTheOldest 7 = .ok (.aload_n 0, 1) := by decide +kernel
theorem dX9_measuresOfTheOldest_8 : decode cX9_measuresOfTheOldest 8 = .ok (.getfield 9, 3) := by decide +kernel
theorem dX9_measuresOfTheOldest_11 : decode cX9_measuresOfTheOldest 11 = .ok (.iload_n 1, 1) := by decide +kernel
theorem dX9_measuresOfTheOldest_12 : decode cX9_measuresOfTheOldest 12 = .ok (.iaload, 1) := by decide +kernel
theorem dX9_measuresOfTheOldest_13 : decode cX9_measuresOfTheOldest 13 = .ok (.ifCond .le 29, 3) := by decide +kernel
theorem dX9_measuresOfTheOldest_16 : decode cX9_measuresOfTheOldest 16 = .ok (.aload_n 0, 1) := by decide +kernel
theorem dX9_measuresOfTheOldest_17 : decode cX9_measuresOfTheOldest 17 = .ok (.getfield 17, 3) := by decide +kernel
theorem dX9_measuresOfTheOldest_20 : decode cX9_measuresOfTheOldest 20 = .ok (.iload_n 1, 1) := by decide +kernel
theorem dX9_measuresOfTheOldest_21 : decode cX9_measuresOfTheOldest 21 = .ok (.aaload, 1) := by decide +kernel
theorem dX9_measuresOfTheOldest_22 : decode cX9_measuresOfTheOldest 22 = .ok (.iload_n 2, 1) := by decide +kernel
theorem dX9_measuresOfTheOldest_23 : decode cX9_measuresOfTheOldest 23 = .ok (.iaload, 1) := by decide +kernel
theorem dX9_measuresOfTheOldest_24 : decode cX9_measuresOfTheOldest 24 = .ok (.ifCond .le 12, 3) := by decide +kernel
theorem dX9_measuresOfTheOldest_27 : decode cX9_measuresOfTheOldest 27 = .ok (.aload_n 0, 1) := by decide +kernel
theorem dX9_measuresOfTheOldest_28 : decode cX9_measuresOfTheOldest 28 = .ok (.getfield 17, 3) := by decide +kernel
theorem dX9_measuresOfTheOldest_31 : decode cX9_measuresOfTheOldest 31 = .ok (.iload_n 1, 1) := by decide +kernel
theorem dX9_measuresOfTheOldest_32 : decode cX9_measuresOfTheOldest 32 = .ok (.aaload, 1) := by decide +kernel
theorem dX9_measuresOfTheOldest_33 : decode cX9_measuresOfTheOldest 33 = .ok (.iload_n 2, 1) := by decide +kernel
theorem dX9_measuresOfTheOldest_34 : decode cX9_measuresOfTheOldest 34 = .ok (.iaload, 1) := by decide +kernel
theorem dX9_measuresOfTheOldest_35 : decode cX9_measuresOfTheOldest 35 = .ok (.ireturn, 1) := by decide +kernel
theorem dX9_measuresOfTheOldest_36 : decode cX9_measuresOfTheOldest 36 = .ok (.iinc 2 (-1), 3) := by decide +kernel
theorem dX9_measuresOfTheOldest_39 : decode cX9_measuresOfTheOldest 39 = .ok (.goto (-36), 3) := by decide +kernel
theorem dX9_measuresOfTheOldest_42 : decode cX9_measuresOfTheOldest 42 = .ok (.iconst 0, 1) := by decide +kernel
theorem dX9_measuresOfTheOldest_43 : decode cX9_measuresOfTheOldest 43 = .ok (.ireturn, 1) := by decide +kernel
theorem dX9_grow_0 : decode cX9_grow 0 = .ok (.aload_n 0, 1) := by decide +kernel
theorem dX9_grow_1 : decode cX9_grow 1 = .ok (.getfield 17, 3) := by decide +kernel
theorem dX9_grow_4 : decode cX9_grow 4 = .ok (.iload_n 1, 1) := by decide +kernel
theorem dX9_grow_5 : decode cX9_grow 5 = .ok (.aaload, 1) := by decide +kernel
theorem dX9_grow_6 : decode cX9_grow 6 = .ok (.astore_n 3, 1) := by decide +kernel
theorem dX9_grow_7 : decode cX9_grow 7 = .ok (.iconst 0, 1) := by decide +kernel
theorem dX9_grow_8 : decode cX9_grow 8 = .ok (.istore 4, 2) := by decide +kernel
theorem dX9_grow_10 : decode cX9_grow 10 = .ok (.bipush 60, 2) := by decide +kernel
theorem dX9_grow_12 : decode cX9_grow 12 = .ok (.istore 5, 2) := by decide +kernel
theorem dX9_grow_14 : decode cX9_grow 14 = .ok (.iload 5, 2) := by decide +kernel
theorem dX9_grow_16 : decode cX9_grow 16 = .ok (.ifCond .lt 60, 3) := by decide +kernel
theorem dX9_grow_19 : decode cX9_grow 19 = .ok (.aload_n 0, 1) := by decide +kernel
theorem dX9_grow_20 : decode cX9_grow 20 = .ok (.getfield 9, 3) := by decide +kernel
theorem dX9_grow_23 : decode cX9_grow 23 = .ok (.iload_n 1, 1) := by decide +kernel
theorem dX9_grow_24 : decode cX9_grow 24 = .ok (.iaload, 1) := by decide +kernel
theorem dX9_grow_25 : decode cX9_grow 25 = .ok (.ifCond .le 51, 3) := by decide +kernel
theorem dX9_grow_28 : decode cX9_grow 28 = .ok (.aload_n 3, 1) := by decide +kernel
theorem dX9_grow_29 : decode cX9_grow 29 = .ok (.iload 5, 2) := by decide +kernel
theorem dX9_grow_31 : decode cX9_grow 31 = .ok (.iaload, 1) := by decide +kernel
theorem dX9_grow_32 : decode cX9_grow 32 = .ok (.istore 6, 2) := by decide +kernel
theorem dX9_grow_34 : decode cX9_grow 34 = .ok (.aload_n 3, 1) := by decide +kernel
theorem dX9_grow_35 : decode cX9_grow 35 = .ok (.iload 5, 2) := by decide +kernel
theorem dX9_grow_37 : decode cX9_grow 37 = .ok (.iconst 0, 1) := by decide +kernel
theorem dX9_grow_38 : decode cX9_grow 38 = .ok (.iastore, 1) := by decide +kernel
theorem dX9_grow_39 : decode cX9_grow 39 = .ok (.iload 5, 2) := by decide +kernel
theorem dX9_grow_41 : decode cX9_grow 41 = .ok (.iload_n 2, 1) := by decide +kernel
theorem dX9_grow_42 : decode cX9_grow 42 = .ok (.if_icmp .ge 21, 3) := by decide +kernel
theorem dX9_grow_45 : decode cX9_grow 45 = .ok (.iload 5, 2) := by decide +kernel
theorem dX9_grow_47 : decode cX9_grow 47 = .ok (.bipush 60, 2) := by decide +kernel
theorem dX9_grow_49 : decode cX9_grow 49 = .ok (.if_icmp .ge 14, 3) := by decide +kernel
theorem dX9_grow_52 : decode cX9_grow 52 = .ok (.aload_n 3, 1) := by decide +kernel
theorem dX9_grow_53 : decode cX9_grow 53 = .ok (.iload 5, 2) := by decide +kernel
theorem dX9_grow_55 : decode cX9_grow 55 = .ok (.iconst 1, 1) := by decide +kernel
theorem dX9_grow_56 : decode cX9_grow 56 = .ok (.iadd, 1) := by decide +kernel
theorem dX9_grow_57 : decode cX9_grow 57 = .ok (.iload 6, 2) := by decide +kernel
theorem dX9_grow_59 : decode cX9_grow 59 = .ok (.iastore, 1) := by decide +kernel
theorem dX9_grow_60 : decode cX9_grow 60 = .ok (.goto 10, 3) := by decide +kernel
theorem dX9_grow_63 : decode cX9_grow 63 = .ok (.iload 4, 2) := by decide +kernel
theorem dX9_grow_65 : decode cX9_grow 65 = .ok (.iload 6, 2) := by decide +kernel
theorem dX9_grow_67 : decode cX9_grow 67 = .ok (.iadd, 1) := by decide +kernel
theorem dX9_grow_68 : decode cX9_grow 68 = .ok (.istore 4, 2) := by decide +kernel
theorem dX9_grow_70 : decode cX9_grow 70 = .ok (.iinc 5 (-1), 3) := by decide +kernel
theorem dX9_grow_73 : decode cX9_grow 73 = .ok (.goto (-59), 3) := by decide +kernel
theorem dX9_grow_76 : decode cX9_grow 76 = .ok (.aload_n 0, 1) := by decide +kernel
theorem dX9_grow_77 : decode cX9_grow 77 = .ok (.getfield 9, 3) := by decide +kernel
theorem dX9_grow_80 : decode cX9_grow 80 = .ok (.iload_n 1, 1) := by decide +kernel
theorem dX9_grow_81 : decode cX9_grow 81 = .ok (.dup2, 1) := by decide +kernel
theorem dX9_grow_82 : decode cX9_grow 82 = .ok (.iaload, 1) := by decide +kernel
theorem dX9_grow_83 : decode cX9_grow 83 = .ok (.iload 4, 2) := by decide +kernel
theorem dX9_grow_85 : decode cX9_grow 85 = .ok (.isub, 1) := by decide +kernel
theorem dX9_grow_86 : decode cX9_grow 86 = .ok (.iastore, 1) := by decide +kernel
theorem dX9_grow_87 : decode cX9_grow 87 = .ok (.iload 4, 2) := by decide +kernel
theorem dX9_grow_89 : decode cX9_grow 89 = .ok (.ireturn, 1) := by decide +kernel
theorem dX10_init_0 : decode cX10_init 0 = .ok (.aload_n 0, 1) := by decide +kernel
theorem dX10_init_1 : decode cX10_init 1 = .ok (.invokespecial 3, 3) := by decide +kernel
theorem dX10_init_4 : decode cX10_init 4 = .ok (.aload_n 0, 1) := by decide +kernel
theorem dX10_init_5 : decode cX10_init 5 = .ok (.new 9, 3) := by decide +kernel
theorem dX10_init_8 : decode cX10_init 8 = .ok (.dup, 1) := by decide +kernel
theorem dX10_init_9 : decode cX10_init 9 = .ok (.invokespecial 11, 3) := by decide +kernel
theorem dX10_init_12 : decode cX10_init 12 = .ok (.putfield 12, 3) := by decide +kernel
theorem dX10_init_15 : decode cX10_init 15 = .ok (.aload_n 0, 1) := by decide +kernel
theorem dX10_init_16 : decode cX10_init 16 = .ok (.new 16, 3) := by decide +kernel
theorem dX10_init_19 : decode cX10_init 19 = .ok (.dup, 1) := by decide +kernel
theorem dX10_init_20 : decode cX10_init 20 = .ok (.invokespecial 18, 3) := by decide +kernel
theorem dX10_init_23 : decode cX10_init 23 = .ok (.putfield 19, 3) := by decide +kernel
theorem dX10_init_26 : decode cX10_init 26 = .ok (.aload_n 0, 1) := by decide +kernel
theorem dX10_init_27 : decode cX10_init 27 = .ok (.new 23, 3) := by decide +kernel
theorem dX10_init_30 : decode cX10_init 30 = .ok (.dup, 1) := by decide +kernel
theorem dX10_init_31 : decode cX10_init 31 = .ok (.invokespecial 25, 3) := by decide +kernel
theorem dX10_init_34 : decode cX10_init 34 = .ok (.putfield 26, 3) := by decide +kernel
theorem dX10_init_37 : decode cX10_init 37 = .ok (.aload_n 0, 1) := by decide +kernel
theorem dX10_init_38 : decode cX10_init 38 = .ok (.sipush 1000, 3) := by decide +kernel
theorem dX10_init_41 : decode cX10_init 41 = .ok (.newarray .byte, 2) := by decide +kernel
theorem dX10_init_43 : decode cX10_init 43 = .ok (.putfield 30, 3) := by decide +kernel
theorem dX10_init_46 : decode cX10_init 46 = .ok (.aload_n 0, 1) := by decide +kernel
theorem dX10_init_47 : decode cX10_init 47 = .ok (.new 34, 3) := by decide +kernel
theorem dX10_init_50 : decode cX10_init 50 = .ok (.dup, 1) := by decide +kernel
theorem dX10_init_51 : decode cX10_init 51 = .ok (.invokespecial 36, 3) := by decide +kernel
theorem dX10_init_54 : decode cX10_init 54 = .ok (.putfield 37, 3) := by decide +kernel
theorem dX10_init_57 : decode cX10_init 57 = .ok (.aload_n 0, 1) := by decide +kernel
theorem dX10_init_58 : decode cX10_init 58 = .ok (.new 41, 3) := by decide +kernel
theorem dX10_init_61 : decode cX10_init 61 = .ok (.dup, 1) := by decide +kernel
theorem dX10_init_62 : decode cX10_init 62 = .ok (.invokespecial 43, 3) := by decide +kernel
theorem dX10_init_65 : decode cX10_init 65 = .ok (.putfield 44, 3) := by decide +kernel
theorem dX10_init_68 : decode cX10_init 68 = .ok (.aload_n 0, 1) := by decide +kernel
theorem dX10_init_69 : decode cX10_init 69 = .ok (.new 48, 3) := by decide +kernel
theorem dX10_init_72 : decode cX10_init 72 = .ok (.dup, 1) := by decide +kernel
theorem dX10_init_73 : decode cX10_init 73 = .ok (.invokespecial 50, 3) := by decide +kernel
theorem dX10_init_76 : decode cX10_init 76 = .ok (.putfield 51, 3) := by decide +kernel
theorem dX10_init_79 : decode cX10_init 79 = .ok (.aload_n 0, 1) := by decide +kernel
theorem dX10_init_80 : decode cX10_init 80 = .ok (.new 55, 3) := by decide +kernel
theorem dX10_init_83 : decode cX10_init 83 = .ok (.dup, 1) := by decide +kernel
theorem dX10_init_84 : decode cX10_init 84 = .ok (.invokespecial 57, 3) := by decide +kernel
theorem dX10_init_87 : decode cX10_init 87 = .ok (.putfield 58, 3) := by decide +kernel
theorem dX10_init_90 : decode cX10_init 90 = .ok (.return_, 1) := by decide +kernel
theorem dX10_town_0 : decode cX10_town 0 = .ok (.iload_n 1, 1) := by decide +kernel
theorem dX10_town_1 : decode cX10_town 1 = .ok (.iconst 0, 1) := by decide +kernel
theorem dX10_town_2 : decode cX10_town 2 = .ok (.ldc 62, 2) := by decide +kernel
theorem dX10_town_4 : decode cX10_town 4 = .ok (.invokestatic 63, 3) := by decide +kernel
theorem dX10_town_7 : decode cX10_town 7 = .ok (.ifCond .eq 25, 3) := by decide +kernel
theorem dX10_town_10 : decode cX10_town 10 = .ok (.iload_n 2, 1) := by decide +kernel
theorem dX10_town_11 : decode cX10_town 11 = .ok (.iconst 0, 1) := by decide +kernel
theorem dX10_town_12 : decode cX10_town 12 = .ok (.sipush 1000, 3) := by decide +kernel
theorem dX10_town_15 : decode cX10_town 15 = .ok (.invokestatic 63, 3) := by decide +kernel
theorem dX10_town_18 : decode cX10_town 18 = .ok (.ifCond .eq 14, 3) := by decide +kernel
theorem dX10_town_21 : decode cX10_town 21 = .ok (.iload_n 3, 1) := by decide +kernel
theorem dX10_town_22 : decode cX10_town 22 = .ok (.iconst 0, 1) := by decide +kernel
theorem dX10_town_23 : decode cX10_town 23 = .ok (.sipush 500, 3) := by decide +kernel
theorem dX10_town_26 : decode cX10_town 26 = .ok (.invokestatic 63, 3) := by decide +kernel
theorem dX10_town_29 : decode cX10_town 29 = .ok (.ifCond .ne 5, 3) := by decide +kernel
theorem dX10_town_32 : decode cX10_town 32 = .ok (.iconst (-1), 1) := by decide +kernel
theorem dX10_town_33 : decode cX10_town 33 = .ok (.ireturn, 1) := by decide +kernel
theorem dX10_town_34 : decode cX10_town 34 = .ok (.aload_n 0, 1) := by decide +kernel
theorem dX10_town_35 : decode cX10_town 35 = .ok (.getfield 12, 3) := by decide +kernel
theorem dX10_town_38 : decode cX10_town 38 = .ok (.iload_n 1, 1) := by decide +kernel
theorem dX10_town_39 : decode cX10_town 39 = .ok (.iload_n 2, 1) := by decide +kernel
theorem dX10_town_40 : decode cX10_town 40 = .ok (.iload_n 3, 1) := by decide +kernel
theorem dX10_town_41 : decode cX10_town 41 = .ok (.invokevirtual 67, 3) := by decide +kernel
theorem dX10_town_44 : decode cX10_town 44 = .ok (.ireturn, 1) := by decide +kernel
theorem dX10_way_0 : decode cX10_way 0 = .ok (.aload_n 0, 1) := by decide +kernel
theorem dX10_way_1 : decode cX10_way 1 = .ok (.getfield 12, 3) := by decide +kernel
theorem dX10_way_4 : decode cX10_way 4 = .ok (.iload_n 1, 1) := by decide +kernel
theorem dX10_way_5 : decode cX10_way 5 = .ok (.invokevirtual 71, 3) := by decide +kernel
theorem dX10_way_8 : decode cX10_way 8 = .ok (.ifCond .eq 19, 3) := by decide +kernel
theorem dX10_way_11 : decode cX10_way 11 = .ok (.aload_n 0, 1) := by decide +kernel
theorem dX10_way_12 : decode cX10_way 12 = .ok (.getfield 12, 3) := by decide +kernel
theorem dX10_way_15 : decode cX10_way 15 = .ok (.iload_n 2, 1) := by decide +kernel
theorem dX10_way_16 : decode cX10_way 16 = .ok (.invokevirtual 71, 3) := by decide +kernel
theorem dX10_way_19 : decode cX10_way 19 = .ok (.ifCond .eq 8, 3) := by decide +kernel
theorem dX10_way_22 : decode cX10_way 22 = .ok (.iload_n 1, 1) := by decide +kernel
theorem dX10_way_23 : decode cX10_way 23 = .ok (.iload_n 2, 1) := by decide +kernel
theorem dX10_way_24 : decode cX10_way 24 = .ok (.if_icmp .ne 5, 3) := by decide +kernel
theorem dX10_way_27 : decode cX10_way 27 = .ok (.iconst 0, 1) := by decide +kernel
theorem dX10_way_28 : decode cX10_way 28 = .ok (.ireturn, 1) := by decide +kernel
theorem dX10_way_29 : decode cX10_way 29 = .ok (.iload_n 3, 1) := by decide +kernel
theorem dX10_way_30 : decode cX10_way 30 = .ok (.iconst (-1), 1) := by decide +kernel
theorem dX10_way_31 : decode cX10_way 31 = .ok (.if_icmp .eq 16, 3) := by decide +kernel
theorem dX10_way_34 : decode cX10_way 34 = .ok (.iload_n 3, 1) := by decide +kernel
theorem dX10_way_35 : decode cX10_way 35 = .ok (.iconst 1, 1) := by decide +kernel
theorem dX10_way_36 : decode cX10_way 36 = .ok (.sipush 200, 3) := by decide +kernel
theorem dX10_way_39 : decode cX10_way 39 = .ok (.invokestatic 63, 3) := by decide +kernel
theorem dX10_way_42 : decode cX10_way 42 = .ok (.ifCond .ne 5, 3) := by decide +kernel
theorem dX10_way_45 : decode cX10_way 45 = .ok (.iconst 0, 1) := by decide +kernel
theorem dX10_way_46 : decode cX10_way 46 = .ok (.ireturn, 1) := by decide +kernel
theorem dX10_way_47 : decode cX10_way 47 = .ok (.aload_n 0, 1) := by decide +kernel
theorem dX10_way_48 : decode cX10_way 48 = .ok (.getfield 12, 3) := by decide +kernel
theorem dX10_way_51 : decode cX10_way 51 = .ok (.getfield 75, 3) := by decide +kernel
theorem dX10_way_54 : decode cX10_way 54 = .ok (.iload_n 1, 1) := by decide +kernel
theorem dX10_way_55 : decode cX10_way 55 = .ok (.aaload, 1) := by decide +kernel
theorem dX10_way_56 : decode cX10_way 56 = .ok (.iload_n 2, 1) := by decide +kernel
theorem dX10_way_57 : decode cX10_way 57 = .ok (.iload_n 3, 1) := by decide +kernel
theorem dX10_way_58 : decode cX10_way 58 = .ok (.iastore, 1) := by decide +kernel
theorem dX10_way_59 : decode cX10_way 59 = .ok (.aload_n 0, 1) := by decide +kernel
theorem dX10_way_60 : decode cX10_way 60 = .ok (.getfield 12, 3) := by decide +kernel
theorem dX10_way_63 : decode cX10_way 63 = .ok (.getfield 75, 3) := by decide +kernel
theorem dX10_way_66 : decode cX10_way 66 = .ok (.iload_n 2, 1) := by decide +kernel
theorem dX10_way_67 : decode cX10_way 67 = .ok (.aaload, 1) := by decide +kernel
theorem dX10_way_68 : decode cX10_way 68 = .ok (.iload_n 1, 1) := by decide +kernel
theorem dX10_way_69 : decode cX10_way 69 = .ok (.iload_n 3, 1) := by decide +kernel
theorem dX10_way_70 : decode cX10_way 70 = .ok (.iastore, 1) := by decide +kernel
theorem dX10_way_71 : decode cX10_way 71 = .ok (.iconst 1, 1) := by decide +kernel
theorem dX10_way_72 : decode cX10_way 72 = .ok (.ireturn, 1) := by decide +kernel
theorem dX10_keeps_0 : decode cX10_keeps 0 = .ok (.iload_n 1, 1) := by decide +kernel
theorem dX10_keeps_1 : decode cX10_keeps 1 = .ok (.invokestatic 79, 3) := by decide +kernel
theorem dX10_keeps_4 : decode cX10_keeps 4 = .ok (.ifCond .eq 13, 3) := by decide +kernel
theorem dX10_keeps_7 : decode cX10_keeps 7 = .ok (.iload_n 2, 1) := by decide +kernel
theorem dX10_keeps_8 : decode cX10_keeps 8 = .ok (.iconst 1, 1) := by decide +kernel
theorem dX10_keeps_9 : decode cX10_keeps 9 = .ok (.bipush 60, 2) := by decide +kernel
theorem dX10_keeps_11 : decode cX10_keeps 11 = .ok (.invokestatic 63, 3) := by decide +kernel
theorem dX10_keeps_14 : decode cX10_keeps 14 = .ok (.ifCond .ne 5, 3) := by decide +kernel
theorem dX10_keeps_17 : decode cX10_keeps 17 = .ok (.iconst 0, 1) := by decide +kernel
theorem dX10_keeps_18 : decode cX10_keeps 18 = .ok (.ireturn, 1) := by decide +kernel
theorem dX10_keeps_19 : decode cX10_keeps 19 = .ok (.aload_n 0, 1) := by decide +kernel
theorem dX10_keeps_20 : decode cX10_keeps 20 = .ok (.getfield 12, 3) := by decide +kernel
theorem dX10_keeps_23 : decode cX10_keeps 23 = .ok (.getfield 82, 3) := by decide +kernel
theorem dX10_keeps_26 : decode cX10_keeps 26 = .ok (.iload_n 1, 1) := by decide +kernel
theorem dX10_keeps_27 : decode cX10_keeps 27 = .ok (.iload_n 2, 1) := by decide +kernel
theorem dX10_keeps_28 : decode cX10_keeps 28 = .ok (.iastore, 1) := by decide +kernel
theorem dX10_keeps_29 : decode cX10_keeps 29 = .ok (.iconst 1, 1) := by decide +kernel
theorem dX10_keeps_30 : decode cX10_keeps 30 = .ok (.ireturn, 1) := by decide +kernel
theorem dX10_put_0 : decode cX10_put 0 = .ok (.aload_n 0, 1) := by decide +kernel
theorem dX10_put_1 : decode cX10_put 1 = .ok (.getfield 12, 3) := by decide +kernel
theorem dX10_put_4 : decode cX10_put 4 = .ok (.iload_n 1, 1) := by decide +kernel
theorem dX10_put_5 : decode cX10_put 5 = .ok (.invokevirtual 71, 3) := by decide +kernel
theorem dX10_put_8 : decode cX10_put 8 = .ok (.ifCond .eq 31, 3) := by decide +kernel
theorem dX10_put_11 : decode cX10_put 11 = .ok (.iload_n 2, 1) := by decide +kernel
theorem dX10_put_12 : decode cX10_put 12 = .ok (.invokestatic 79, 3) := by decide +kernel
theorem dX10_put_15 : decode cX10_put 15 = .ok (.ifCond .eq 24, 3) := by decide +kernel
theorem dX10_put_18 : decode cX10_put 18 = .ok (.iload_n 3, 1) := by decide +kernel
theorem dX10_put_19 : decode cX10_put 19 = .ok (.iconst 0, 1) := by decide +kernel
theorem dX10_put_20 : decode cX10_put 20 = .ok (.bipush 60, 2) := by decide +kernel
theorem dX10_put_22 : decode cX10_put 22 = .ok (.invokestatic 63, 3) := by decide +kernel
theorem dX10_put_25 : decode cX10_put 25 = .ok (.ifCond .eq 14, 3) := by decide +kernel
theorem dX10_put_28 : decode cX10_put 28 = .ok (.iload 4, 2) := by decide +kernel
theorem dX10_put_30 : decode cX10_put 30 = .ok (.iconst 1, 1) := by decide +kernel
theorem dX10_put_31 : decode cX10_put 31 = .ok (.ldc 62, 2) := by decide +kernel
theorem dX10_put_33 : decode cX10_put 33 = .ok (.invokestatic 63, 3) := by decide +kernel
theorem dX10_put_36 : decode cX10_put 36 = .ok (.ifCond .ne 5, 3) := by decide +kernel
theorem dX10_put_39 : decode cX10_put 39 = .ok (.iconst (-1), 1) := by decide +kernel
theorem dX10_put_40 : decode cX10_put 40 = .ok (.ireturn, 1) := by decide +kernel
theorem dX10_put_41 : decode cX10_put 41 = .ok (.aload_n 0, 1) := by decide +kernel
theorem dX10_put_42 : decode cX10_put 42 = .ok (.getfield 12, 3) := by decide +kernel
theorem dX10_put_45 : decode cX10_put 45 = .ok (.getfield 86, 3) := by decide +kernel
theorem dX10_put_48 : decode cX10_put 48 = .ok (.iload_n 1, 1) := by decide +kernel
theorem dX10_put_49 : decode cX10_put 49 = .ok (.aaload, 1) := by decide +kernel
theorem dX10_put_50 : decode cX10_put 50 = .ok (.iload_n 2, 1) := by decide +kernel
theorem dX10_put_51 : decode cX10_put 51 = .ok (.iload_n 3, 1) := by decide +kernel
theorem dX10_put_52 : decode cX10_put 52 = .ok (.iload 4, 2) := by decide +kernel
theorem dX10_put_54 : decode cX10_put 54 = .ok (.invokevirtual 90, 3) := by decide +kernel
theorem dX10_put_57 : decode cX10_put 57 = .ok (.istore 5, 2) := by decide +kernel
theorem dX10_put_59 : decode cX10_put 59 = .ok (.aload_n 0, 1) := by decide +kernel
theorem dX10_put_60 : decode cX10_put 60 = .ok (.getfield 19, 3) := by decide +kernel
theorem dX10_put_63 : decode cX10_put 63 = .ok (.dup, 1) := by decide +kernel
theorem dX10_put_64 : decode cX10_put 64 = .ok (.getfield 95, 3) := by decide +kernel
theorem dX10_put_67 : decode cX10_put 67 = .ok (.iload 4, 2) := by decide +kernel
theorem dX10_put_69 : decode cX10_put 69 = .ok (.iload 5, 2) := by decide +kernel
theorem dX10_put_71 : decode cX10_put 71 = .ok (.isub, 1) := by decide +kernel
theorem dX10_put_72 : decode cX10_put 72 = .ok (.iadd, 1) := by decide +kernel
theorem dX10_put_73 : decode cX10_put 73 = .ok (.putfield 95, 3) := by decide +kernel
theorem dX10_put_76 : decode cX10_put 76 = .ok (.iload 5, 2) := by decide +kernel
theorem dX10_put_78 : decode cX10_put 78 = .ok (.ireturn, 1) := by decide +kernel
theorem dX10_take_0 : decode cX10_take 0 = .ok (.aload_n 0, 1) := by decide +kernel
theorem dX10_take_1 : decode cX10_take 1 = .ok (.getfield 12, 3) := by decide +kernel
theorem dX10_take_4 : decode cX10_take 4 = .ok (.iload_n 1, 1) := by decide +kernel
theorem dX10_take_5 : decode cX10_take 5 = .ok (.invokevirtual 71, 3) := by decide +kernel
theorem dX10_take_8 : decode cX10_take 8 = .ok (.ifCond .eq 20, 3) := by decide +kernel
end
section
theorem dX10_take_11 : decode cX10_take 11 = .ok (.iload_n 2, 1) := by decide +kernel
theorem dX10_take_12 : decode cX10_take 12 = .ok (.invokestatic 79, 3) := by decide +kernel
theorem dX10_take_15 : decode cX10_take 15 = .ok (.ifCond .eq 13, 3) := by decide +kernel
theorem dX10_take_18 : decode cX10_take 18 = .ok (.iload_n 3, 1) := by decide +kernel
theorem dX10_take_19 : decode cX10_take 19 = .ok (.iconst 1, 1) := by decide +kernel
theorem dX10_take_20 : decode cX10_take 20 = .ok (.ldc 62, 2) := by decide +kernel
theorem dX10_take_22 : decode cX10_take 22 = .ok (.invokestatic 63, 3) := by decide +kernel
theorem dX10_take_25 : decode cX10_take 25 = .ok (.ifCond .ne 5, 3) := by decide +kernel
theorem dX10_take_28 : decode cX10_take 28 = .ok (.iconst (-1), 1) := by decide +kernel
theorem dX10_take_29 : decode cX10_take 29 = .ok (.ireturn, 1) := by decide +kernel
theorem dX10_take_30 : decode cX10_take 30 = .ok (.aload_n 0, 1) := by decide +kernel
theorem dX10_take_31 : decode cX10_take 31 = .ok (.getfield 12, 3) := by decide +kernel
theorem dX10_take_34 : decode cX10_take 34 = .ok (.getfield 86, 3) := by decide +kernel
theorem dX10_take_37 : decode cX10_take 37 = .ok (.iload_n 1, 1) := by decide +kernel
theorem dX10_take_38 : decode cX10_take 38 = .ok (.aaload, 1) := by decide +kernel
theorem dX10_take_39 : decode cX10_take 39 = .ok (.iload_n 2, 1) := by decide +kernel
theorem dX10_take_40 : decode cX10_take 40 = .ok (.iload_n 3, 1) := by decide +kernel
theorem dX10_take_41 : decode cX10_take 41 = .ok (.invokevirtual 99, 3) := by decide +kernel
theorem dX10_take_44 : decode cX10_take 44 = .ok (.ireturn, 1) := by decide +kernel
theorem dX10_stock_0 : decode cX10_stock 0 = .ok (.aload_n 0, 1) := by decide +kernel
theorem dX10_stock_1 : decode cX10_stock 1 = .ok (.getfield 12, 3) := by decide +kernel
theorem dX10_stock_4 : decode cX10_stock 4 = .ok (.iload_n 1, 1) := by decide +kernel
theorem dX10_stock_5 : decode cX10_stock 5 = .ok (.invokevirtual 71, 3) := by decide +kernel
theorem dX10_stock_8 : decode cX10_stock 8 = .ok (.ifCond .eq 10, 3) := by decide +kernel
theorem dX10_stock_11 : decode cX10_stock 11 = .ok (.iload_n 2, 1) := by decide +kernel
theorem dX10_stock_12 : decode cX10_stock 12 = .ok (.invokestatic 79, 3) := by decide +kernel
theorem dX10_stock_15 : decode cX10_stock 15 = .ok (.ifCond .ne 5, 3) := by decide +kernel
theorem dX10_stock_18 : decode cX10_stock 18 = .ok (.iconst (-1), 1) := by decide +kernel
theorem dX10_stock_19 : decode cX10_stock 19 = .ok (.ireturn, 1) := by decide +kernel
theorem dX10_stock_20 : decode cX10_stock 20 = .ok (.iload_n 3, 1) := by decide +kernel
theorem dX10_stock_21 : decode cX10_stock 21 = .ok (.iconst (-1), 1) := by decide +kernel
theorem dX10_stock_22 : decode cX10_stock 22 = .ok (.if_icmp .ne 18, 3) := by decide +kernel
theorem dX10_stock_25 : decode cX10_stock 25 = .ok (.aload_n 0, 1) := by decide +kernel
theorem dX10_stock_26 : decode cX10_stock 26 = .ok (.getfield 12, 3) := by decide +kernel
theorem dX10_stock_29 : decode cX10_stock 29 = .ok (.getfield 86, 3) := by decide +kernel
theorem dX10_stock_32 : decode cX10_stock 32 = .ok (.iload_n 1, 1) := by decide +kernel
theorem dX10_stock_33 : decode cX10_stock 33 = .ok (.aaload, 1) := by decide +kernel
theorem dX10_stock_34 : decode cX10_stock 34 = .ok (.getfield 103, 3) := by decide +kernel
theorem dX10_stock_37 : decode cX10_stock 37 = .ok (.iload_n 2, 1) := by decide +kernel
theorem dX10_stock_38 : decode cX10_stock 38 = .ok (.iaload, 1) := by decide +kernel
theorem dX10_stock_39 : decode cX10_stock 39 = .ok (.ireturn, 1) := by decide +kernel
theorem dX10_stock_40 : decode cX10_stock 40 = .ok (.iload_n 3, 1) := by decide +kernel
theorem dX10_stock_41 : decode cX10_stock 41 = .ok (.iconst 0, 1) := by decide +kernel
theorem dX10_stock_42 : decode cX10_stock 42 = .ok (.bipush 60, 2) := by decide +kernel
theorem dX10_stock_44 : decode cX10_stock 44 = .ok (.invokestatic 63, 3) := by decide +kernel
theorem dX10_stock_47 : decode cX10_stock 47 = .ok (.ifCond .eq 22, 3) := by decide +kernel
theorem dX10_stock_50 : decode cX10_stock 50 = .ok (.aload_n 0, 1) := by decide +kernel
theorem dX10_stock_51 : decode cX10_stock 51 = .ok (.getfield 12, 3) := by decide +kernel
theorem dX10_stock_54 : decode cX10_stock 54 = .ok (.getfield 86, 3) := by decide +kernel
theorem dX10_stock_57 : decode cX10_stock 57 = .ok (.iload_n 1, 1) := by decide +kernel
theorem dX10_stock_58 : decode cX10_stock 58 = .ok (.aaload, 1) := by decide +kernel
theorem dX10_stock_59 : decode cX10_stock 59 = .ok (.getfield 106, 3) := by decide +kernel
theorem dX10_stock_62 : decode cX10_stock 62 = .ok (.iload_n 2, 1) := by decide +kernel
theorem dX10_stock_63 : decode cX10_stock 63 = .ok (.aaload, 1) := by decide +kernel
theorem dX10_stock_64 : decode cX10_stock 64 = .ok (.iload_n 3, 1) := by decide +kernel
theorem dX10_stock_65 : decode cX10_stock 65 = .ok (.iaload, 1) := by decide +kernel
theorem dX10_stock_66 : decode cX10_stock 66 = .ok (.goto 4, 3) := by decide +kernel
theorem dX10_stock_69 : decode cX10_stock 69 = .ok (.iconst (-1), 1) := by decide +kernel
theorem dX10_stock_70 : decode cX10_stock 70 = .ok (.ireturn, 1) := by decide +kernel
theorem dX10_feed_0 : decode cX10_feed 0 = .ok (.aload_n 0, 1) := by decide +kernel
theorem dX10_feed_1 : decode cX10_feed 1 = .ok (.getfield 109, 3) := by decide +kernel
theorem dX10_feed_4 : decode cX10_feed 4 = .ok (.bipush 20, 2) := by decide +kernel
theorem dX10_feed_6 : decode cX10_feed 6 = .ok (.iadd, 1) := by decide +kernel
theorem dX10_feed_7 : decode cX10_feed 7 = .ok (.sipush 1000, 3) := by decide +kernel
theorem dX10_feed_10 : decode cX10_feed 10 = .ok (.if_icmp .le 5, 3) := by decide +kernel
theorem dX10_feed_13 : decode cX10_feed 13 = .ok (.iconst (-1), 1) := by decide +kernel
theorem dX10_feed_14 : decode cX10_feed 14 = .ok (.ireturn, 1) := by decide +kernel
theorem dX10_feed_15 : decode cX10_feed 15 = .ok (.aload_n 0, 1) := by decide +kernel
theorem dX10_feed_16 : decode cX10_feed 16 = .ok (.iload_n 1, 1) := by decide +kernel
theorem dX10_feed_17 : decode cX10_feed 17 = .ok (.invokevirtual 112, 3) := by decide +kernel
theorem dX10_feed_20 : decode cX10_feed 20 = .ok (.aload_n 0, 1) := by decide +kernel
theorem dX10_feed_21 : decode cX10_feed 21 = .ok (.iload_n 2, 1) := by decide +kernel
theorem dX10_feed_22 : decode cX10_feed 22 = .ok (.invokevirtual 112, 3) := by decide +kernel
theorem dX10_feed_25 : decode cX10_feed 25 = .ok (.aload_n 0, 1) := by decide +kernel
theorem dX10_feed_26 : decode cX10_feed 26 = .ok (.iload_n 3, 1) := by decide +kernel
theorem dX10_feed_27 : decode cX10_feed 27 = .ok (.invokevirtual 112, 3) := by decide +kernel
theorem dX10_feed_30 : decode cX10_feed 30 = .ok (.aload_n 0, 1) := by decide +kernel
theorem dX10_feed_31 : decode cX10_feed 31 = .ok (.iload 4, 2) := by decide +kernel
theorem dX10_feed_33 : decode cX10_feed 33 = .ok (.invokevirtual 112, 3) := by decide +kernel
theorem dX10_feed_36 : decode cX10_feed 36 = .ok (.aload_n 0, 1) := by decide +kernel
theorem dX10_feed_37 : decode cX10_feed 37 = .ok (.iload 5, 2) := by decide +kernel
theorem dX10_feed_39 : decode cX10_feed 39 = .ok (.invokevirtual 112, 3) := by decide +kernel
theorem dX10_feed_42 : decode cX10_feed 42 = .ok (.aload_n 0, 1) := by decide +kernel
theorem dX10_feed_43 : decode cX10_feed 43 = .ok (.getfield 109, 3) := by decide +kernel
theorem dX10_feed_46 : decode cX10_feed 46 = .ok (.ireturn, 1) := by decide +kernel
theorem dX10_end_0 : decode cX10_end 0 = .ok (.iload_n 1, 1) := by decide +kernel
theorem dX10_end_1 : decode cX10_end 1 = .ok (.iconst 0, 1) := by decide +kernel
theorem dX10_end_2 : decode cX10_end 2 = .ok (.aload_n 0, 1) := by decide +kernel
theorem dX10_end_3 : decode cX10_end 3 = .ok (.getfield 109, 3) := by decide +kernel
theorem dX10_end_6 : decode cX10_end 6 = .ok (.invokestatic 63, 3) := by decide +kernel
theorem dX10_end_9 : decode cX10_end 9 = .ok (.ifCond .ne 5, 3) := by decide +kernel
theorem dX10_end_12 : decode cX10_end 12 = .ok (.iconst (-1), 1) := by decide +kernel
theorem dX10_end_13 : decode cX10_end 13 = .ok (.ireturn, 1) := by decide +kernel
theorem dX10_end_14 : decode cX10_end 14 = .ok (.aload_n 0, 1) := by decide +kernel
theorem dX10_end_15 : decode cX10_end 15 = .ok (.iload_n 1, 1) := by decide +kernel
theorem dX10_end_16 : decode cX10_end 16 = .ok (.putfield 109, 3) := by decide +kernel
theorem dX10_end_19 : decode cX10_end 19 = .ok (.iload_n 1, 1) := by decide +kernel
theorem dX10_end_20 : decode cX10_end 20 = .ok (.ireturn, 1) := by decide +kernel
theorem dX10_orders_0 : decode cX10_orders 0 = .ok (.aload_n 0, 1) := by decide +kernel
theorem dX10_orders_1 : decode cX10_orders 1 = .ok (.getfield 109, 3) := by decide +kernel
theorem dX10_orders_4 : decode cX10_orders 4 = .ok (.istore_n 1, 1) := by decide +kernel
theorem dX10_orders_5 : decode cX10_orders 5 = .ok (.aload_n 0, 1) := by decide +kernel
theorem dX10_orders_6 : decode cX10_orders 6 = .ok (.iconst 0, 1) := by decide +kernel
theorem dX10_orders_7 : decode cX10_orders 7 = .ok (.putfield 109, 3) := by decide +kernel
theorem dX10_orders_10 : decode cX10_orders 10 = .ok (.aload_n 0, 1) := by decide +kernel
theorem dX10_orders_11 : decode cX10_orders 11 = .ok (.getfield 37, 3) := by decide +kernel
theorem dX10_orders_14 : decode cX10_orders 14 = .ok (.aload_n 0, 1) := by decide +kernel
theorem dX10_orders_15 : decode cX10_orders 15 = .ok (.getfield 30, 3) := by decide +kernel
theorem dX10_orders_18 : decode cX10_orders 18 = .ok (.iload_n 1, 1) := by decide +kernel
theorem dX10_orders_19 : decode cX10_orders 19 = .ok (.invokevirtual 116, 3) := by decide +kernel
theorem dX10_orders_22 : decode cX10_orders 22 = .ok (.ireturn, 1) := by decide +kernel
theorem dX10_fault_0 : decode cX10_fault 0 = .ok (.iload_n 1, 1) := by decide +kernel
theorem dX10_fault_1 : decode cX10_fault 1 = .ok (.lookupswitch 43 #[(0, 27), (1, 35)], 27) := by decide +kernel
theorem dX10_fault_28 : decode cX10_fault 28 = .ok (.aload_n 0, 1) := by decide +kernel
theorem dX10_fault_29 : decode cX10_fault 29 = .ok (.getfield 37, 3) := by decide +kernel
theorem dX10_fault_32 : decode cX10_fault 32 = .ok (.getfield 120, 3) := by decide +kernel
theorem dX10_fault_35 : decode cX10_fault 35 = .ok (.ireturn, 1) := by decide +kernel
theorem dX10_fault_36 : decode cX10_fault 36 = .ok (.aload_n 0, 1) := by decide +kernel
theorem dX10_fault_37 : decode cX10_fault 37 = .ok (.getfield 37, 3) := by decide +kernel
theorem dX10_fault_40 : decode cX10_fault 40 = .ok (.getfield 123, 3) := by decide +kernel
theorem dX10_fault_43 : decode cX10_fault 43 = .ok (.ireturn, 1) := by decide +kernel
theorem dX10_fault_44 : decode cX10_fault 44 = .ok (.iconst (-1), 1) := by decide +kernel
theorem dX10_fault_45 : decode cX10_fault 45 = .ok (.ireturn, 1) := by decide +kernel
theorem dX10_months_0 : decode cX10_months 0 = .ok (.iload_n 1, 1) := by decide +kernel
theorem dX10_months_1 : decode cX10_months 1 = .ok (.iconst 0, 1) := by decide +kernel
theorem dX10_months_2 : decode cX10_months 2 = .ok (.bipush 60, 2) := by decide +kernel
theorem dX10_months_4 : decode cX10_months 4 = .ok (.invokestatic 63, 3) := by decide +kernel
theorem dX10_months_7 : decode cX10_months 7 = .ok (.ifCond .eq 18, 3) := by decide +kernel
theorem dX10_months_10 : decode cX10_months 10 = .ok (.aload_n 0, 1) := by decide +kernel
theorem dX10_months_11 : decode cX10_months 11 = .ok (.getfield 12, 3) := by decide +kernel
theorem dX10_months_14 : decode cX10_months 14 = .ok (.getfield 126, 3) := by decide +kernel
theorem dX10_months_17 : decode cX10_months 17 = .ok (.iload_n 1, 1) := by decide +kernel
theorem dX10_months_18 : decode cX10_months 18 = .ok (.iadd, 1) := by decide +kernel
theorem dX10_months_19 : decode cX10_months 19 = .ok (.sipush 2000, 3) := by decide +kernel
theorem dX10_months_22 : decode cX10_months 22 = .ok (.if_icmp .le 5, 3) := by decide +kernel
theorem dX10_months_25 : decode cX10_months 25 = .ok (.iconst (-1), 1) := by decide +kernel
theorem dX10_months_26 : decode cX10_months 26 = .ok (.ireturn, 1) := by decide +kernel
theorem dX10_months_27 : decode cX10_months 27 = .ok (.iconst 0, 1) := by decide +kernel
theorem dX10_months_28 : decode cX10_months 28 = .ok (.istore_n 2, 1) := by decide +kernel
theorem dX10_months_29 : decode cX10_months 29 = .ok (.iload_n 2, 1) := by decide +kernel
theorem dX10_months_30 : decode cX10_months 30 = .ok (.iload_n 1, 1) := by decide +kernel
theorem dX10_months_31 : decode cX10_months 31 = .ok (.if_icmp .ge 13, 3) := by decide +kernel
theorem dX10_months_34 : decode cX10_months 34 = .ok (.aload_n 0, 1) := by decide +kernel
theorem dX10_months_35 : decode cX10_months 35 = .ok (.invokevirtual 129, 3) := by decide +kernel
theorem dX10_months_38 : decode cX10_months 38 = .ok (.iinc 2 1, 3) := by decide +kernel
theorem dX10_months_41 : decode cX10_months 41 = .ok (.goto (-12), 3) := by decide +kernel
theorem dX10_months_44 : decode cX10_months 44 = .ok (.aload_n 0, 1) := by decide +kernel
theorem dX10_months_45 : decode cX10_months 45 = .ok (.getfield 12, 3) := by decide +kernel
theorem dX10_months_48 : decode cX10_months 48 = .ok (.getfield 126, 3) := by decide +kernel
theorem dX10_months_51 : decode cX10_months 51 = .ok (.ireturn, 1) := by decide +kernel
theorem dX10_sum_0 : decode cX10_sum 0 = .ok (.iload_n 1, 1) := by decide +kernel
theorem dX10_sum_1 : decode cX10_sum 1 = .ok (.tableswitch 87 0 5 #[39, 47, 55, 63, 71, 79], 39) := by decide +kernel
theorem dX10_sum_40 : decode cX10_sum 40 = .ok (.aload_n 0, 1) := by decide +kernel
theorem dX10_sum_41 : decode cX10_sum 41 = .ok (.getfield 19, 3) := by decide +kernel
theorem dX10_sum_44 : decode cX10_sum 44 = .ok (.getfield 132, 3) := by decide +kernel
theorem dX10_sum_47 : decode cX10_sum 47 = .ok (.ireturn, 1) := by decide +kernel
theorem dX10_sum_48 : decode cX10_sum 48 = .ok (.aload_n 0, 1) := by decide +kernel
theorem dX10_sum_49 : decode cX10_sum 49 = .ok (.getfield 19, 3) := by decide +kernel
theorem dX10_sum_52 : decode cX10_sum 52 = .ok (.getfield 135, 3) := by decide +kernel
theorem dX10_sum_55 : decode cX10_sum 55 = .ok (.ireturn, 1) := by decide +kernel
theorem dX10_sum_56 : decode cX10_sum 56 = .ok (.aload_n 0, 1) := by decide +kernel
theorem dX10_sum_57 : decode cX10_sum 57 = .ok (.getfield 19, 3) := by decide +kernel
theorem dX10_sum_60 : decode cX10_sum 60 = .ok (.getfield 95, 3) := by decide +kernel
theorem dX10_sum_63 : decode cX10_sum 63 = .ok (.ireturn, 1) := by decide +kernel
theorem dX10_sum_64 : decode cX10_sum 64 = .ok (.aload_n 0, 1) := by decide +kernel
theorem dX10_sum_65 : decode cX10_sum 65 = .ok (.getfield 26, 3) := by decide +kernel
theorem dX10_sum_68 : decode cX10_sum 68 = .ok (.invokevirtual 138, 3) := by decide +kernel
theorem dX10_sum_71 : decode cX10_sum 71 = .ok (.ireturn, 1) := by decide +kernel
theorem dX10_sum_72 : decode cX10_sum 72 = .ok (.aload_n 0, 1) := by decide +kernel
theorem dX10_sum_73 : decode cX10_sum 73 = .ok (.getfield 26, 3) := by decide +kernel
theorem dX10_sum_76 : decode cX10_sum 76 = .ok (.getfield 142, 3) := by decide +kernel
theorem dX10_sum_79 : decode cX10_sum 79 = .ok (.ireturn, 1) := by decide +kernel
theorem dX10_sum_80 : decode cX10_sum 80 = .ok (.aload_n 0, 1) := by decide +kernel
theorem dX10_sum_81 : decode cX10_sum 81 = .ok (.getfield 19, 3) := by decide +kernel
theorem dX10_sum_84 : decode cX10_sum 84 = .ok (.getfield 145, 3) := by decide +kernel
theorem dX10_sum_87 : decode cX10_sum 87 = .ok (.ireturn, 1) := by decide +kernel
theorem dX10_sum_88 : decode cX10_sum 88 = .ok (.iconst (-1), 1) := by decide +kernel
theorem dX10_sum_89 : decode cX10_sum 89 = .ok (.ireturn, 1) := by decide +kernel
theorem dX10_feast_0 : decode cX10_feast 0 = .ok (.aload_n 0, 1) := by decide +kernel
theorem dX10_feast_1 : decode cX10_feast 1 = .ok (.getfield 12, 3) := by decide +kernel
theorem dX10_feast_4 : decode cX10_feast 4 = .ok (.iload_n 1, 1) := by decide +kernel
theorem dX10_feast_5 : decode cX10_feast 5 = .ok (.invokevirtual 71, 3) := by decide +kernel
theorem dX10_feast_8 : decode cX10_feast 8 = .ok (.ifCond .eq 20, 3) := by decide +kernel
theorem dX10_feast_11 : decode cX10_feast 11 = .ok (.iload_n 2, 1) := by decide +kernel
theorem dX10_feast_12 : decode cX10_feast 12 = .ok (.aload_n 0, 1) := by decide +kernel
theorem dX10_feast_13 : decode cX10_feast 13 = .ok (.getfield 12, 3) := by decide +kernel
theorem dX10_feast_16 : decode cX10_feast 16 = .ok (.getfield 126, 3) := by decide +kernel
theorem dX10_feast_19 : decode cX10_feast 19 = .ok (.sipush 2000, 3) := by decide +kernel
theorem dX10_feast_22 : decode cX10_feast 22 = .ok (.invokestatic 63, 3) := by decide +kernel
theorem dX10_feast_25 : decode cX10_feast 25 = .ok (.ifCond .ne 5, 3) := by decide +kernel
theorem dX10_feast_28 : decode cX10_feast 28 = .ok (.iconst (-1), 1) := by decide +kernel
theorem dX10_feast_29 : decode cX10_feast 29 = .ok (.ireturn, 1) := by decide +kernel
theorem dX10_feast_30 : decode cX10_feast 30 = .ok (.iload_n 3, 1) := by decide +kernel
theorem dX10_feast_31 : decode cX10_feast 31 = .ok (.invokestatic 79, 3) := by decide +kernel
theorem dX10_feast_34 : decode cX10_feast 34 = .ok (.ifCond .eq 15, 3) := by decide +kernel
theorem dX10_feast_37 : decode cX10_feast 37 = .ok (.iload 4, 2) := by decide +kernel
theorem dX10_feast_39 : decode cX10_feast 39 = .ok (.iconst 1, 1) := by decide +kernel
theorem dX10_feast_40 : decode cX10_feast 40 = .ok (.sipush 10000, 3) := by decide +kernel
theorem dX10_feast_43 : decode cX10_feast 43 = .ok (.invokestatic 63, 3) := by decide +kernel
theorem dX10_feast_46 : decode cX10_feast 46 = .ok (.ifCond .ne 5, 3) := by decide +kernel
theorem dX10_feast_49 : decode cX10_feast 49 = .ok (.iconst (-1), 1) := by decide +kernel
theorem dX10_feast_50 : decode cX10_feast 50 = .ok (.ireturn, 1) := by decide +kernel
theorem dX10_feast_51 : decode cX10_feast 51 = .ok (.aload_n 0, 1) := by decide +kernel
theorem dX10_feast_52 : decode cX10_feast 52 = .ok (.getfield 44, 3) := by decide +kernel
theorem dX10_feast_55 : decode cX10_feast 55 = .ok (.iload_n 1, 1) := by decide +kernel
theorem dX10_feast_56 : decode cX10_feast 56 = .ok (.iload_n 2, 1) := by decide +kernel
theorem dX10_feast_57 : decode cX10_feast 57 = .ok (.iload_n 3, 1) := by decide +kernel
theorem dX10_feast_58 : decode cX10_feast 58 = .ok (.iload 4, 2) := by decide +kernel
theorem dX10_feast_60 : decode cX10_feast 60 = .ok (.invokevirtual 148, 3) := by decide +kernel
theorem dX10_feast_63 : decode cX10_feast 63 = .ok (.ireturn, 1) := by decide +kernel
theorem dX10_cancel_0 : decode cX10_cancel 0 = .ok (.aload_n 0, 1) := by decide +kernel
theorem dX10_cancel_1 : decode cX10_cancel 1 = .ok (.getfield 44, 3) := by decide +kernel
theorem dX10_cancel_4 : decode cX10_cancel 4 = .ok (.getfield 152, 3) := by decide +kernel
theorem dX10_cancel_7 : decode cX10_cancel 7 = .ok (.ifCond .ne 5, 3) := by decide +kernel
theorem dX10_cancel_10 : decode cX10_cancel 10 = .ok (.iconst 0, 1) := by decide +kernel
theorem dX10_cancel_11 : decode cX10_cancel 11 = .ok (.ireturn, 1) := by decide +kernel
theorem dX10_cancel_12 : decode cX10_cancel 12 = .ok (.aload_n 0, 1) := by decide +kernel
theorem dX10_cancel_13 : decode cX10_cancel 13 = .ok (.getfield 44, 3) := by decide +kernel
theorem dX10_cancel_16 : decode cX10_cancel 16 = .ok (.dup, 1) := by decide +kernel
theorem dX10_cancel_17 : decode cX10_cancel 17 = .ok (.getfield 152, 3) := by decide +kernel
theorem dX10_cancel_20 : decode cX10_cancel 20 = .ok (.iconst 1, 1) := by decide +kernel
theorem dX10_cancel_21 : decode cX10_cancel 21 = .ok (.isub, 1) := by decide +kernel
theorem dX10_cancel_22 : decode cX10_cancel 22 = .ok (.putfield 152, 3) := by decide +kernel
theorem dX10_cancel_25 : decode cX10_cancel 25 = .ok (.iconst 1, 1) := by decide +kernel
theorem dX10_cancel_26 : decode cX10_cancel 26 = .ok (.ireturn, 1) := by decide +kernel
theorem dX10_fed_0 : decode cX10_fed 0 = .ok (.aload_n 0, 1) := by decide +kernel
theorem dX10_fed_1 : decode cX10_fed 1 = .ok (.getfield 51, 3) := by decide +kernel
theorem dX10_fed_4 : decode cX10_fed 4 = .ok (.aload_n 0, 1) := by decide +kernel
theorem dX10_fed_5 : decode cX10_fed 5 = .ok (.getfield 12, 3) := by decide +kernel
theorem dX10_fed_8 : decode cX10_fed 8 = .ok (.aload_n 0, 1) := by decide +kernel
theorem dX10_fed_9 : decode cX10_fed 9 = .ok (.getfield 44, 3) := by decide +kernel
theorem dX10_fed_12 : decode cX10_fed 12 = .ok (.invokevirtual 153, 3) := by decide +kernel
theorem dX10_fed_15 : decode cX10_fed 15 = .ok (.aload_n 0, 1) := by decide +kernel
theorem dX10_fed_16 : decode cX10_fed 16 = .ok (.getfield 51, 3) := by decide +kernel
theorem dX10_fed_19 : decode cX10_fed 19 = .ok (.getfield 157, 3) := by decide +kernel
theorem dX10_fed_22 : decode cX10_fed 22 = .ok (.ireturn, 1) := by decide +kernel
theorem dX10_carried_0 : decode cX10_carried 0 = .ok (.aload_n 0, 1) := by decide +kernel
theorem dX10_carried_1 : decode cX10_carried 1 = .ok (.getfield 51, 3) := by decide +kernel
theorem dX10_carried_4 : decode cX10_carried 4 = .ok (.aload_n 0, 1) := by decide +kernel
theorem dX10_carried_5 : decode cX10_carried 5 = .ok (.getfield 12, 3) := by decide +kernel
theorem dX10_carried_8 : decode cX10_carried 8 = .ok (.aload_n 0, 1) := by decide +kernel
theorem dX10_carried_9 : decode cX10_carried 9 = .ok (.getfield 44, 3) := by decide +kernel
theorem dX10_carried_12 : decode cX10_carried 12 = .ok (.invokevirtual 153, 3) := by decide +kernel
theorem dX10_carried_15 : decode cX10_carried 15 = .ok (.aload_n 0, 1) := by decide +kernel
theorem dX10_carried_16 : decode cX10_carried 16 = .ok (.getfield 51, 3) := by decide +kernel
theorem dX10_carried_19 : decode cX10_carried 19 = .ok (.getfield 160, 3) := by decide +kernel
theorem dX10_carried_22 : decode cX10_carried 22 = .ok (.ireturn, 1) := by decide +kernel
theorem dX10_call_0 : decode cX10_call 0 = .ok (.iload_n 1, 1) := by decide +kernel
theorem dX10_call_1 : decode cX10_call 1 = .ok (.iconst 1, 1) := by decide +kernel
theorem dX10_call_2 : decode cX10_call 2 = .ok (.sipush 1000, 3) := by decide +kernel
theorem dX10_call_5 : decode cX10_call 5 = .ok (.invokestatic 63, 3) := by decide +kernel
theorem dX10_call_8 : decode cX10_call 8 = .ok (.ifCond .eq 17, 3) := by decide +kernel
theorem dX10_call_11 : decode cX10_call 11 = .ok (.aload_n 0, 1) := by decide +kernel
theorem dX10_call_12 : decode cX10_call 12 = .ok (.getfield 12, 3) := by decide +kernel
theorem dX10_call_15 : decode cX10_call 15 = .ok (.getfield 163, 3) := by decide +kernel
theorem dX10_call_18 : decode cX10_call 18 = .ok (.iload_n 1, 1) := by decide +kernel
theorem dX10_call_19 : decode cX10_call 19 = .ok (.iadd, 1) := by decide +kernel
theorem dX10_call_20 : decode cX10_call 20 = .ok (.ldc 62, 2) := by decide +kernel
theorem dX10_call_22 : decode cX10_call 22 = .ok (.if_icmp .le 5, 3) := by decide +kernel
theorem dX10_call_25 : decode cX10_call 25 = .ok (.iconst (-1), 1) := by decide +kernel
theorem dX10_call_26 : decode cX10_call 26 = .ok (.ireturn, 1) := by decide +kernel
theorem dX10_call_27 : decode cX10_call 27 = .ok (.aload_n 0, 1) := by decide +kernel
theorem dX10_call_28 : decode cX10_call 28 = .ok (.getfield 12, 3) := by decide +kernel
theorem dX10_call_31 : decode cX10_call 31 = .ok (.invokevirtual 166, 3) := by decide +kernel
theorem dX10_call_34 : decode cX10_call 34 = .ok (.istore_n 2, 1) := by decide +kernel
theorem dX10_call_35 : decode cX10_call 35 = .ok (.iload_n 2, 1) := by decide +kernel
theorem dX10_call_36 : decode cX10_call 36 = .ok (.ifCond .ne 5, 3) := by decide +kernel
theorem dX10_call_39 : decode cX10_call 39 = .ok (.iconst (-1), 1) := by decide +kernel
theorem dX10_call_40 : decode cX10_call 40 = .ok (.ireturn, 1) := by decide +kernel
theorem dX10_call_41 : decode cX10_call 41 = .ok (.iconst 0, 1) := by decide +kernel
theorem dX10_call_42 : decode cX10_call 42 = .ok (.istore_n 3, 1) := by decide +kernel
theorem dX10_call_43 : decode cX10_call 43 = .ok (.iload_n 3, 1) := by decide +kernel
theorem dX10_call_44 : decode cX10_call 44 = .ok (.iload_n 1, 1) := by decide +kernel
theorem dX10_call_45 : decode cX10_call 45 = .ok (.if_icmp .ge 17, 3) := by decide +kernel
theorem dX10_call_48 : decode cX10_call 48 = .ok (.aload_n 0, 1) := by decide +kernel
theorem dX10_call_49 : decode cX10_call 49 = .ok (.getfield 12, 3) := by decide +kernel
theorem dX10_call_52 : decode cX10_call 52 = .ok (.iload_n 2, 1) := by decide +kernel
theorem dX10_call_53 : decode cX10_call 53 = .ok (.invokevirtual 169, 3) := by decide +kernel
theorem dX10_call_56 : decode cX10_call 56 = .ok (.iinc 3 1, 3) := by decide +kernel
theorem dX10_call_59 : decode cX10_call 59 = .ok (.goto (-16), 3) := by decide +kernel
theorem dX10_call_62 : decode cX10_call 62 = .ok (.aload_n 0, 1) := by decide +kernel
theorem dX10_call_63 : decode cX10_call 63 = .ok (.getfield 12, 3) := by decide +kernel
theorem dX10_call_66 : decode cX10_call 66 = .ok (.getfield 163, 3) := by decide +kernel
theorem dX10_call_69 : decode cX10_call 69 = .ok (.ireturn, 1) := by decide +kernel
theorem dX10_gave_0 : decode cX10_gave 0 = .ok (.aload_n 0, 1) := by decide +kernel
theorem dX10_gave_1 : decode cX10_gave 1 = .ok (.getfield 12, 3) := by decide +kernel
theorem dX10_gave_4 : decode cX10_gave 4 = .ok (.iload_n 1, 1) := by decide +kernel
theorem dX10_gave_5 : decode cX10_gave 5 = .ok (.invokevirtual 71, 3) := by decide +kernel
theorem dX10_gave_8 : decode cX10_gave 8 = .ok (.ifCond .eq 18, 3) := by decide +kernel
theorem dX10_gave_11 : decode cX10_gave 11 = .ok (.aload_n 0, 1) := by decide +kernel
theorem dX10_gave_12 : decode cX10_gave 12 = .ok (.getfield 12, 3) := by decide +kernel
theorem dX10_gave_15 : decode cX10_gave 15 = .ok (.getfield 86, 3) := by decide +kernel
theorem dX10_gave_18 : decode cX10_gave 18 = .ok (.iload_n 1, 1) := by decide +kernel
theorem dX10_gave_19 : decode cX10_gave 19 = .ok (.aaload, 1) := by decide +kernel
theorem dX10_gave_20 : decode cX10_gave 20 = .ok (.getfield 172, 3) := by decide +kernel
theorem dX10_gave_23 : decode cX10_gave 23 = .ok (.goto 4, 3) := by decide +kernel
theorem dX10_gave_26 : decode cX10_gave 26 = .ok (.iconst (-1), 1) := by decide +kernel
theorem dX10_gave_27 : decode cX10_gave 27 = .ok (.ireturn, 1) := by decide +kernel
theorem dX10_tell_0 : decode cX10_tell 0 = .ok (.iload_n 1, 1) := by decide +kernel
theorem dX10_tell_1 : decode cX10_tell 1 = .ok (.iconst 0, 1) := by decide +kernel
theorem dX10_tell_2 : decode cX10_tell 2 = .ok (.iconst 4, 1) := by decide +kernel
theorem dX10_tell_3 : decode cX10_tell 3 = .ok (.invokestatic 63, 3) := by decide +kernel
theorem dX10_tell_6 : decode cX10_tell 6 = .ok (.ifCond .eq 21, 3) := by decide +kernel
theorem dX10_tell_9 : decode cX10_tell 9 = .ok (.aload_n 0, 1) := by decide +kernel
theorem dX10_tell_10 : decode cX10_tell 10 = .ok (.getfield 12, 3) := by decide +kernel
theorem dX10_tell_13 : decode cX10_tell 13 = .ok (.iload_n 2, 1) := by decide +kernel
theorem dX10_tell_14 : decode cX10_tell 14 = .ok (.invokevirtual 71, 3) := by decide +kernel
theorem dX10_tell_17 : decode cX10_tell 17 = .ok (.ifCond .eq 10, 3) := by decide +kernel
theorem dX10_tell_20 : decode cX10_tell 20 = .ok (.iload_n 3, 1) := by decide +kernel
theorem dX10_tell_21 : decode cX10_tell 21 = .ok (.invokestatic 79, 3) := by decide +kernel
theorem dX10_tell_24 : decode cX10_tell 24 = .ok (.ifCond .ne 5, 3) := by decide +kernel
theorem dX10_tell_27 : decode cX10_tell 27 = .ok (.iconst (-1), 1) := by decide +kernel
theorem dX10_tell_28 : decode cX10_tell 28 = .ok (.ireturn, 1) := by decide +kernel
theorem dX10_tell_29 : decode cX10_tell 29 = .ok (.iload 4, 2) := by decide +kernel
theorem dX10_tell_31 : decode cX10_tell 31 = .ok (.iconst 0, 1) := by decide +kernel
theorem dX10_tell_32 : decode cX10_tell 32 = .ok (.aload_n 0, 1) := by decide +kernel
theorem dX10_tell_33 : decode cX10_tell 33 = .ok (.getfield 12, 3) := by decide +kernel
theorem dX10_tell_36 : decode cX10_tell 36 = .ok (.getfield 126, 3) := by decide +kernel
theorem dX10_tell_39 : decode cX10_tell 39 = .ok (.invokestatic 63, 3) := by decide +kernel
theorem dX10_tell_42 : decode cX10_tell 42 = .ok (.ifCond .eq 14, 3) := by decide +kernel
theorem dX10_tell_45 : decode cX10_tell 45 = .ok (.iload 5, 2) := by decide +kernel
theorem dX10_tell_47 : decode cX10_tell 47 = .ok (.iconst 0, 1) := by decide +kernel
theorem dX10_tell_48 : decode cX10_tell 48 = .ok (.ldc 175, 2) := by decide +kernel
theorem dX10_tell_50 : decode cX10_tell 50 = .ok (.invokestatic 63, 3) := by decide +kernel
theorem dX10_tell_53 : decode cX10_tell 53 = .ok (.ifCond .ne 5, 3) := by decide +kernel
theorem dX10_tell_56 : decode cX10_tell 56 = .ok (.iconst (-1), 1) := by decide +kernel
theorem dX10_tell_57 : decode cX10_tell 57 = .ok (.ireturn, 1) := by decide +kernel
theorem dX10_tell_58 : decode cX10_tell 58 = .ok (.aload_n 0, 1) := by decide +kernel
theorem dX10_tell_59 : decode cX10_tell 59 = .ok (.getfield 58, 3) := by decide +kernel
theorem dX10_tell_62 : decode cX10_tell 62 = .ok (.iload_n 1, 1) := by decide +kernel
theorem dX10_tell_63 : decode cX10_tell 63 = .ok (.iload_n 2, 1) := by decide +kernel
theorem dX10_tell_64 : decode cX10_tell 64 = .ok (.iload_n 3, 1) := by decide +kernel
theorem dX10_tell_65 : decode cX10_tell 65 = .ok (.invokestatic 176, 3) := by decide +kernel
theorem dX10_tell_68 : decode cX10_tell 68 = .ok (.iload 4, 2) := by decide +kernel
theorem dX10_tell_70 : decode cX10_tell 70 = .ok (.iload 5, 2) := by decide +kernel
theorem dX10_tell_72 : decode cX10_tell 72 = .ok (.aload_n 0, 1) := by decide +kernel
theorem dX10_tell_73 : decode cX10_tell 73 = .ok (.getfield 12, 3) := by decide +kernel
theorem dX10_tell_76 : decode cX10_tell 76 = .ok (.getfield 126, 3) := by decide +kernel
theorem dX10_tell_79 : decode cX10_tell 79 = .ok (.invokevirtual 179, 3) := by decide +kernel
theorem dX10_tell_82 : decode cX10_tell 82 = .ok (.ireturn, 1) := by decide +kernel
theorem dX10_untell_0 : decode cX10_untell 0 = .ok (.aload_n 0, 1) := by decide +kernel
theorem dX10_untell_1 : decode cX10_untell 1 = .ok (.getfield 58, 3) := by decide +kernel
theorem dX10_untell_4 : decode cX10_untell 4 = .ok (.iload_n 1, 1) := by decide +kernel
theorem dX10_untell_5 : decode cX10_untell 5 = .ok (.aload_n 0, 1) := by decide +kernel
theorem dX10_untell_6 : decode cX10_untell 6 = .ok (.getfield 12, 3) := by decide +kernel
theorem dX10_untell_9 : decode cX10_untell 9 = .ok (.getfield 126, 3) := by decide +kernel
theorem dX10_untell_12 : decode cX10_untell 12 = .ok (.invokevirtual 182, 3) := by decide +kernel
theorem dX10_untell_15 : decode cX10_untell 15 = .ok (.ireturn, 1) := by decide +kernel
theorem dX10_count_0 : decode cX10_count 0 = .ok (.aload_n 0, 1) := by decide +kernel
theorem dX10_count_1 : decode cX10_count 1 = .ok (.getfield 12, 3) := by decide +kernel
theorem dX10_count_4 : decode cX10_count 4 = .ok (.iload_n 1, 1) := by decide +kernel
theorem dX10_count_5 : decode cX10_count 5 = .ok (.invokevirtual 71, 3) := by decide +kernel
theorem dX10_count_8 : decode cX10_count 8 = .ok (.ifCond .eq 10, 3) := by decide +kernel
theorem dX10_count_11 : decode cX10_count 11 = .ok (.iload_n 2, 1) := by decide +kernel
theorem dX10_count_12 : decode cX10_count 12 = .ok (.invokestatic 79, 3) := by decide +kernel
theorem dX10_count_15 : decode cX10_count 15 = .ok (.ifCond .ne 5, 3) := by decide +kernel
theorem dX10_count_18 : decode cX10_count 18 = .ok (.iconst (-1), 1) := by decide +kernel
theorem dX10_count_19 : decode cX10_count 19 = .ok (.ireturn, 1) := by decide +kernel
theorem dX10_count_20 : decode cX10_count 20 = .ok (.aload_n 0, 1) := by decide +kernel
theorem dX10_count_21 : decode cX10_count 21 = .ok (.getfield 58, 3) := by decide +kernel
theorem dX10_count_24 : decode cX10_count 24 = .ok (.iload_n 1, 1) := by decide +kernel
theorem dX10_count_25 : decode cX10_count 25 = .ok (.iload_n 2, 1) := by decide +kernel
theorem dX10_count_26 : decode cX10_count 26 = .ok (.invokestatic 176, 3) := by decide +kernel
theorem dX10_count_29 : decode cX10_count 29 = .ok (.iload_n 3, 1) := by decide +kernel
theorem dX10_count_30 : decode cX10_count 30 = .ok (.iload 4, 2) := by decide +kernel
theorem dX10_count_32 : decode cX10_count 32 = .ok (.invokevirtual 186, 3) := by decide +kernel
theorem dX10_count_35 : decode cX10_count 35 = .ok (.aload_n 0, 1) := by decide +kernel
theorem dX10_count_36 : decode cX10_count 36 = .ok (.getfield 58, 3) := by decide +kernel
theorem dX10_count_39 : decode cX10_count 39 = .ok (.getfield 190, 3) := by decide +kernel
theorem dX10_count_42 : decode cX10_count 42 = .ok (.ireturn, 1) := by decide +kernel
theorem dX10_agree_0 : decode cX10_agree 0 = .ok (.aload_n 0, 1) := by decide +kernel
theorem dX10_agree_1 : decode cX10_agree 1 = .ok (.getfield 12, 3) := by decide +kernel
theorem dX10_agree_4 : decode cX10_agree 4 = .ok (.iload_n 1, 1) := by decide +kernel
theorem dX10_agree_5 : decode cX10_agree 5 = .ok (.invokevirtual 71, 3) := by decide +kernel
theorem dX10_agree_8 : decode cX10_agree 8 = .ok (.ifCond .eq 10, 3) := by decide +kernel
theorem dX10_agree_11 : decode cX10_agree 11 = .ok (.iload_n 2, 1) := by decide +kernel
theorem dX10_agree_12 : decode cX10_agree 12 = .ok (.invokestatic 79, 3) := by decide +kernel
theorem dX10_agree_15 : decode cX10_agree 15 = .ok (.ifCond .ne 5, 3) := by decide +kernel
theorem dX10_agree_18 : decode cX10_agree 18 = .ok (.iconst 0, 1) := by decide +kernel
theorem dX10_agree_19 : decode cX10_agree 19 = .ok (.ireturn, 1) := by decide +kernel
theorem dX10_agree_20 : decode cX10_agree 20 = .ok (.aload_n 0, 1) := by decide +kernel
theorem dX10_agree_21 : decode cX10_agree 21 = .ok (.getfield 58, 3) := by decide +kernel
theorem dX10_agree_24 : decode cX10_agree 24 = .ok (.iload_n 1, 1) := by decide +kernel
theorem dX10_agree_25 : decode cX10_agree 25 = .ok (.iload_n 2, 1) := by decide +kernel
theorem dX10_agree_26 : decode cX10_agree 26 = .ok (.invokestatic 176, 3) := by decide +kernel
theorem dX10_agree_29 : decode cX10_agree 29 = .ok (.iload_n 3, 1) := by decide +kernel
theorem dX10_agree_30 : decode cX10_agree 30 = .ok (.iload 4, 2) := by decide +kernel
theorem dX10_agree_32 : decode cX10_agree 32 = .ok (.invokevirtual 186, 3) := by decide +kernel
theorem dX10_agree_35 : decode cX10_agree 35 = .ok (.aload_n 0, 1) := by decide +kernel
theorem dX10_agree_36 : decode cX10_agree 36 = .ok (.getfield 58, 3) := by decide +kernel
theorem dX10_agree_39 : decode cX10_agree 39 = .ok (.getfield 193, 3) := by decide +kernel
theorem dX10_agree_42 : decode cX10_agree 42 = .ok (.ireturn, 1) := by decide +kernel
theorem dX10_of_0 : decode cX10_of 0 = .ok (.aload_n 0, 1) := by decide +kernel
theorem dX10_of_1 : decode cX10_of 1 = .ok (.getfield 12, 3) := by decide +kernel
theorem dX10_of_4 : decode cX10_of 4 = .ok (.iload_n 1, 1) := by decide +kernel
theorem dX10_of_5 : decode cX10_of 5 = .ok (.invokevirtual 71, 3) := by decide +kernel
theorem dX10_of_8 : decode cX10_of 8 = .ok (.ifCond .ne 5, 3) := by decide +kernel
theorem dX10_of_11 : decode cX10_of 11 = .ok (.iconst (-1), 1) := by decide +kernel
theorem dX10_of_12 : decode cX10_of 12 = .ok (.ireturn, 1) := by decide +kernel
theorem dX10_of_13 : decode cX10_of 13 = .ok (.aload_n 0, 1) := by decide +kernel
theorem dX10_of_14 : decode cX10_of 14 = .ok (.getfield 12, 3) := by decide +kernel
theorem dX10_of_17 : decode cX10_of 17 = .ok (.getfield 86, 3) := by decide +kernel
theorem dX10_of_20 : decode cX10_of 20 = .ok (.iload_n 1, 1) := by decide +kernel
theorem dX10_of_21 : decode cX10_of 21 = .ok (.aaload, 1) := by decide +kernel
theorem dX10_of_22 : decode cX10_of 22 = .ok (.astore_n 3, 1) := by decide +kernel
theorem dX10_of_23 : decode cX10_of 23 = .ok (.iload_n 2, 1) := by decide +kernel
theorem dX10_of_24 : decode cX10_of 24 = .ok (.tableswitch 52 0 3 #[32, 37, 42, 47], 32) := by decide +kernel
theorem dX10_of_56 : decode cX10_of 56 = .ok (.aload_n 3, 1) := by decide +kernel
theorem dX10_of_57 : decode cX10_of 57 = .ok (.getfield 196, 3) := by decide +kernel
theorem dX10_of_60 : decode cX10_of 60 = .ok (.ireturn, 1) := by decide +kernel
theorem dX10_of_61 : decode cX10_of 61 = .ok (.aload_n 3, 1) := by decide +kernel
theorem dX10_of_62 : decode cX10_of 62 = .ok (.getfield 199, 3) := by decide +kernel
theorem dX10_of_65 : decode cX10_of 65 = .ok (.ireturn, 1) := by decide +kernel
theorem dX10_of_66 : decode cX10_of 66 = .ok (.aload_n 3, 1) := by decide +kernel
theorem dX10_of_67 : decode cX10_of 67 = .ok (.getfield 202, 3) := by decide +kernel
theorem dX10_of_70 : decode cX10_of 70 = .ok (.ireturn, 1) := by decide +kernel
theorem dX10_of_71 : decode cX10_of 71 = .ok (.aload_n 3, 1) := by decide +kernel
theorem dX10_of_72 : decode cX10_of 72 = .ok (.invokevirtual 205, 3) := by decide +kernel
theorem dX10_of_75 : decode cX10_of 75 = .ok (.ireturn, 1) := by decide +kernel
theorem dX10_of_76 : decode cX10_of 76 = .ok (.iload_n 2, 1) := by decide +kernel
theorem dX10_of_77 : decode cX10_of 77 = .ok (.bipush 10, 2) := by decide +kernel
theorem dX10_of_79 : decode cX10_of 79 = .ok (.bipush 9, 2) := by decide +kernel
theorem dX10_of_81 : decode cX10_of 81 = .ok (.aload_n 0, 1) := by decide +kernel
theorem dX10_of_82 : decode cX10_of 82 = .ok (.getfield 12, 3) := by decide +kernel
theorem dX10_of_85 : decode cX10_of 85 = .ok (.getfield 208, 3) := by decide +kernel
theorem dX10_of_88 : decode cX10_of 88 = .ok (.iadd, 1) := by decide +kernel
theorem dX10_of_89 : decode cX10_of 89 = .ok (.invokestatic 63, 3) := by decide +kernel
theorem dX10_of_92 : decode cX10_of 92 = .ok (.ifCond .eq 20, 3) := by decide +kernel
theorem dX10_of_95 : decode cX10_of 95 = .ok (.aload_n 0, 1) := by decide +kernel
theorem dX10_of_96 : decode cX10_of 96 = .ok (.getfield 12, 3) := by decide +kernel
theorem dX10_of_99 : decode cX10_of 99 = .ok (.getfield 75, 3) := by decide +kernel
theorem dX10_of_102 : decode cX10_of 102 = .ok (.iload_n 1, 1) := by decide +kernel
theorem dX10_of_103 : decode cX10_of 103 = .ok (.aaload, 1) := by decide +kernel
theorem dX10_of_104 : decode cX10_of 104 = .ok (.iload_n 2, 1) := by decide +kernel
theorem dX10_of_105 : decode cX10_of 105 = .ok (.bipush 10, 2) := by decide +kernel
theorem dX10_of_107 : decode cX10_of 107 = .ok (.isub, 1) := by decide +kernel
theorem dX10_of_108 : decode cX10_of 108 = .ok (.iaload, 1) := by decide +kernel
theorem dX10_of_109 : decode cX10_of 109 = .ok (.goto 4, 3) := by decide +kernel
theorem dX10_of_112 : decode cX10_of 112 = .ok (.iconst (-1), 1) := by decide +kernel
theorem dX10_of_113 : decode cX10_of 113 = .ok (.ireturn, 1) := by decide +kernel
theorem dX10_about_0 : decode cX10_about 0 = .ok (.iload_n 1, 1) := by decide +kernel
theorem dX10_about_1 : decode cX10_about 1 = .ok (.tableswitch 99 0 6 #[43, 51, 59, 70, 78, 86, 94], 43) := by decide +kernel
theorem dX10_about_44 : decode cX10_about 44 = .ok (.aload_n 0, 1) := by decide +kernel
theorem dX10_about_45 : decode cX10_about 45 = .ok (.getfield 12, 3) := by decide +kernel
theorem dX10_about_48 : decode cX10_about 48 = .ok (.getfield 126, 3) := by decide +kernel
theorem dX10_about_51 : decode cX10_about 51 = .ok (.ireturn, 1) := by decide +kernel
theorem dX10_about_52 : decode cX10_about 52 = .ok (.aload_n 0, 1) := by decide +kernel
theorem dX10_about_53 : decode cX10_about 53 = .ok (.getfield 12, 3) := by decide +kernel
theorem dX10_about_56 : decode cX10_about 56 = .ok (.getfield 208, 3) := by decide +kernel
theorem dX10_about_59 : decode cX10_about 59 = .ok (.ireturn, 1) := by decide +kernel
end
section
theorem dX10_about_60 : decode cX10_about 60 = .ok (.aload_n 0, 1) := by decide +kernel
theorem dX10_about_61 : decode cX10_about 61 = .ok (.getfield 37, 3) := by decide +kernel
theorem dX10_about_64 : decode cX10_about 64 = .ok (.getfield 211, 3) := by decide +kernel
theorem dX10_about_67 : decode cX10_about 67 = .ok (.getfield 215, 3) := by decide +kernel
theorem dX10_about_70 : decode cX10_about 70 = .ok (.ireturn, 1) := by decide +kernel
theorem dX10_about_71 : decode cX10_about 71 = .ok (.aload_n 0, 1) := by decide +kernel
theorem dX10_about_72 : decode cX10_about 72 = .ok (.getfield 44, 3) := by decide +kernel
theorem dX10_about_75 : decode cX10_about 75 = .ok (.getfield 152, 3) := by decide +kernel
theorem dX10_about_78 : decode cX10_about 78 = .ok (.ireturn, 1) := by decide +kernel
theorem dX10_about_79 : decode cX10_about 79 = .ok (.aload_n 0, 1) := by decide +kernel
theorem dX10_about_80 : decode cX10_about 80 = .ok (.getfield 12, 3) := by decide +kernel
theorem dX10_about_83 : decode cX10_about 83 = .ok (.getfield 163, 3) := by decide +kernel
theorem dX10_about_86 : decode cX10_about 86 = .ok (.ireturn, 1) := by decide +kernel
theorem dX10_about_87 : decode cX10_about 87 = .ok (.aload_n 0, 1) := by decide +kernel
theorem dX10_about_88 : decode cX10_about 88 = .ok (.getfield 58, 3) := by decide +kernel
theorem dX10_about_91 : decode cX10_about 91 = .ok (.getfield 220, 3) := by decide +kernel
theorem dX10_about_94 : decode cX10_about 94 = .ok (.ireturn, 1) := by decide +kernel
theorem dX10_about_95 : decode cX10_about 95 = .ok (.aload_n 0, 1) := by decide +kernel
theorem dX10_about_96 : decode cX10_about 96 = .ok (.getfield 109, 3) := by decide +kernel
theorem dX10_about_99 : decode cX10_about 99 = .ok (.ireturn, 1) := by decide +kernel
theorem dX10_about_100 : decode cX10_about 100 = .ok (.iload_n 1, 1) := by decide +kernel
theorem dX10_about_101 : decode cX10_about 101 = .ok (.bipush 10, 2) := by decide +kernel
theorem dX10_about_103 : decode cX10_about 103 = .ok (.bipush 12, 2) := by decide +kernel
theorem dX10_about_105 : decode cX10_about 105 = .ok (.invokestatic 63, 3) := by decide +kernel
theorem dX10_about_108 : decode cX10_about 108 = .ok (.ifCond .eq 18, 3) := by decide +kernel
theorem dX10_about_111 : decode cX10_about 111 = .ok (.aload_n 0, 1) := by decide +kernel
theorem dX10_about_112 : decode cX10_about 112 = .ok (.getfield 12, 3) := by decide +kernel
theorem dX10_about_115 : decode cX10_about 115 = .ok (.getfield 82, 3) := by decide +kernel
theorem dX10_about_118 : decode cX10_about 118 = .ok (.iload_n 1, 1) := by decide +kernel
theorem dX10_about_119 : decode cX10_about 119 = .ok (.bipush 10, 2) := by decide +kernel
theorem dX10_about_121 : decode cX10_about 121 = .ok (.isub, 1) := by decide +kernel
theorem dX10_about_122 : decode cX10_about 122 = .ok (.iaload, 1) := by decide +kernel
theorem dX10_about_123 : decode cX10_about 123 = .ok (.goto 4, 3) := by decide +kernel
theorem dX10_about_126 : decode cX10_about 126 = .ok (.iconst (-1), 1) := by decide +kernel
theorem dX10_about_127 : decode cX10_about 127 = .ok (.ireturn, 1) := by decide +kernel
theorem dX10_write_0 : decode cX10_write 0 = .ok (.bipush 24, 2) := by decide +kernel
theorem dX10_write_2 : decode cX10_write 2 = .ok (.istore_n 2, 1) := by decide +kernel
theorem dX10_write_3 : decode cX10_write 3 = .ok (.iload_n 2, 1) := by decide +kernel
theorem dX10_write_4 : decode cX10_write 4 = .ok (.ifCond .lt 42, 3) := by decide +kernel
theorem dX10_write_7 : decode cX10_write 7 = .ok (.aload_n 0, 1) := by decide +kernel
theorem dX10_write_8 : decode cX10_write 8 = .ok (.getfield 109, 3) := by decide +kernel
theorem dX10_write_11 : decode cX10_write 11 = .ok (.sipush 1000, 3) := by decide +kernel
theorem dX10_write_14 : decode cX10_write 14 = .ok (.if_icmp .ge 32, 3) := by decide +kernel
theorem dX10_write_17 : decode cX10_write 17 = .ok (.aload_n 0, 1) := by decide +kernel
theorem dX10_write_18 : decode cX10_write 18 = .ok (.getfield 30, 3) := by decide +kernel
theorem dX10_write_21 : decode cX10_write 21 = .ok (.aload_n 0, 1) := by decide +kernel
theorem dX10_write_22 : decode cX10_write 22 = .ok (.getfield 109, 3) := by decide +kernel
theorem dX10_write_25 : decode cX10_write 25 = .ok (.iload_n 1, 1) := by decide +kernel
theorem dX10_write_26 : decode cX10_write 26 = .ok (.iload_n 2, 1) := by decide +kernel
theorem dX10_write_27 : decode cX10_write 27 = .ok (.ishr, 1) := by decide +kernel
theorem dX10_write_28 : decode cX10_write 28 = .ok (.i2b, 1) := by decide +kernel
theorem dX10_write_29 : decode cX10_write 29 = .ok (.bastore, 1) := by decide +kernel
theorem dX10_write_30 : decode cX10_write 30 = .ok (.aload_n 0, 1) := by decide +kernel
theorem dX10_write_31 : decode cX10_write 31 = .ok (.dup, 1) := by decide +kernel
theorem dX10_write_32 : decode cX10_write 32 = .ok (.getfield 109, 3) := by decide +kernel
theorem dX10_write_35 : decode cX10_write 35 = .ok (.iconst 1, 1) := by decide +kernel
theorem dX10_write_36 : decode cX10_write 36 = .ok (.iadd, 1) := by decide +kernel
theorem dX10_write_37 : decode cX10_write 37 = .ok (.putfield 109, 3) := by decide +kernel
theorem dX10_write_40 : decode cX10_write 40 = .ok (.iinc 2 (-8), 3) := by decide +kernel
theorem dX10_write_43 : decode cX10_write 43 = .ok (.goto (-40), 3) := by decide +kernel
theorem dX10_write_46 : decode cX10_write 46 = .ok (.return_, 1) := by decide +kernel
theorem dX10_passMonth_0 : decode cX10_passMonth 0 = .ok (.aload_n 0, 1) := by decide +kernel
theorem dX10_passMonth_1 : decode cX10_passMonth 1 = .ok (.getfield 26, 3) := by decide +kernel
theorem dX10_passMonth_4 : decode cX10_passMonth 4 = .ok (.aload_n 0, 1) := by decide +kernel
theorem dX10_passMonth_5 : decode cX10_passMonth 5 = .ok (.getfield 12, 3) := by decide +kernel
theorem dX10_passMonth_8 : decode cX10_passMonth 8 = .ok (.aload_n 0, 1) := by decide +kernel
theorem dX10_passMonth_9 : decode cX10_passMonth 9 = .ok (.getfield 19, 3) := by decide +kernel
theorem dX10_passMonth_12 : decode cX10_passMonth 12 = .ok (.invokevirtual 221, 3) := by decide +kernel
theorem dX10_passMonth_15 : decode cX10_passMonth 15 = .ok (.aload_n 0, 1) := by decide +kernel
theorem dX10_passMonth_16 : decode cX10_passMonth 16 = .ok (.getfield 26, 3) := by decide +kernel
theorem dX10_passMonth_19 : decode cX10_passMonth 19 = .ok (.invokevirtual 225, 3) := by decide +kernel
theorem dX10_passMonth_22 : decode cX10_passMonth 22 = .ok (.aload_n 0, 1) := by decide +kernel
theorem dX10_passMonth_23 : decode cX10_passMonth 23 = .ok (.getfield 12, 3) := by decide +kernel
theorem dX10_passMonth_26 : decode cX10_passMonth 26 = .ok (.aload_n 0, 1) := by decide +kernel
theorem dX10_passMonth_27 : decode cX10_passMonth 27 = .ok (.getfield 19, 3) := by decide +kernel
theorem dX10_passMonth_30 : decode cX10_passMonth 30 = .ok (.invokevirtual 228, 3) := by decide +kernel
theorem dX10_passMonth_33 : decode cX10_passMonth 33 = .ok (.aload_n 0, 1) := by decide +kernel
theorem dX10_passMonth_34 : decode cX10_passMonth 34 = .ok (.getfield 12, 3) := by decide +kernel
theorem dX10_passMonth_37 : decode cX10_passMonth 37 = .ok (.aload_n 0, 1) := by decide +kernel
theorem dX10_passMonth_38 : decode cX10_passMonth 38 = .ok (.getfield 19, 3) := by decide +kernel
theorem dX10_passMonth_41 : decode cX10_passMonth 41 = .ok (.invokevirtual 232, 3) := by decide +kernel
theorem dX10_passMonth_44 : decode cX10_passMonth 44 = .ok (.iconst 0, 1) := by decide +kernel
theorem dX10_passMonth_45 : decode cX10_passMonth 45 = .ok (.istore_n 1, 1) := by decide +kernel
theorem dX10_passMonth_46 : decode cX10_passMonth 46 = .ok (.iload_n 1, 1) := by decide +kernel
theorem dX10_passMonth_47 : decode cX10_passMonth 47 = .ok (.aload_n 0, 1) := by decide +kernel
theorem dX10_passMonth_48 : decode cX10_passMonth 48 = .ok (.getfield 37, 3) := by decide +kernel
theorem dX10_passMonth_51 : decode cX10_passMonth 51 = .ok (.getfield 211, 3) := by decide +kernel
theorem dX10_passMonth_54 : decode cX10_passMonth 54 = .ok (.getfield 215, 3) := by decide +kernel
theorem dX10_passMonth_57 : decode cX10_passMonth 57 = .ok (.if_icmp .ge 39, 3) := by decide +kernel
theorem dX10_passMonth_60 : decode cX10_passMonth 60 = .ok (.aload_n 0, 1) := by decide +kernel
theorem dX10_passMonth_61 : decode cX10_passMonth 61 = .ok (.getfield 37, 3) := by decide +kernel
theorem dX10_passMonth_64 : decode cX10_passMonth 64 = .ok (.getfield 211, 3) := by decide +kernel
theorem dX10_passMonth_67 : decode cX10_passMonth 67 = .ok (.iload_n 1, 1) := by decide +kernel
theorem dX10_passMonth_68 : decode cX10_passMonth 68 = .ok (.aload_n 0, 1) := by decide +kernel
theorem dX10_passMonth_69 : decode cX10_passMonth 69 = .ok (.getfield 12, 3) := by decide +kernel
theorem dX10_passMonth_72 : decode cX10_passMonth 72 = .ok (.invokevirtual 235, 3) := by decide +kernel
theorem dX10_passMonth_75 : decode cX10_passMonth 75 = .ok (.ifCond .eq 15, 3) := by decide +kernel
theorem dX10_passMonth_78 : decode cX10_passMonth 78 = .ok (.aload_n 0, 1) := by decide +kernel
theorem dX10_passMonth_79 : decode cX10_passMonth 79 = .ok (.aload_n 0, 1) := by decide +kernel
theorem dX10_passMonth_80 : decode cX10_passMonth 80 = .ok (.getfield 37, 3) := by decide +kernel
theorem dX10_passMonth_83 : decode cX10_passMonth 83 = .ok (.getfield 211, 3) := by decide +kernel
theorem dX10_passMonth_86 : decode cX10_passMonth 86 = .ok (.iload_n 1, 1) := by decide +kernel
theorem dX10_passMonth_87 : decode cX10_passMonth 87 = .ok (.invokevirtual 239, 3) := by decide +kernel
theorem dX10_passMonth_90 : decode cX10_passMonth 90 = .ok (.iinc 1 1, 3) := by decide +kernel
theorem dX10_passMonth_93 : decode cX10_passMonth 93 = .ok (.goto (-47), 3) := by decide +kernel
theorem dX10_passMonth_96 : decode cX10_passMonth 96 = .ok (.aload_n 0, 1) := by decide +kernel
theorem dX10_passMonth_97 : decode cX10_passMonth 97 = .ok (.getfield 12, 3) := by decide +kernel
theorem dX10_passMonth_100 : decode cX10_passMonth 100 = .ok (.dup, 1) := by decide +kernel
theorem dX10_passMonth_101 : decode cX10_passMonth 101 = .ok (.getfield 126, 3) := by decide +kernel
theorem dX10_passMonth_104 : decode cX10_passMonth 104 = .ok (.iconst 1, 1) := by decide +kernel
theorem dX10_passMonth_105 : decode cX10_passMonth 105 = .ok (.iadd, 1) := by decide +kernel
theorem dX10_passMonth_106 : decode cX10_passMonth 106 = .ok (.putfield 126, 3) := by decide +kernel
theorem dX10_passMonth_109 : decode cX10_passMonth 109 = .ok (.return_, 1) := by decide +kernel
theorem dX10_obey_0 : decode cX10_obey 0 = .ok (.aload_n 1, 1) := by decide +kernel
theorem dX10_obey_1 : decode cX10_obey 1 = .ok (.getfield 243, 3) := by decide +kernel
theorem dX10_obey_4 : decode cX10_obey 4 = .ok (.iload_n 2, 1) := by decide +kernel
theorem dX10_obey_5 : decode cX10_obey 5 = .ok (.iaload, 1) := by decide +kernel
theorem dX10_obey_6 : decode cX10_obey 6 = .ok (.istore_n 3, 1) := by decide +kernel
theorem dX10_obey_7 : decode cX10_obey 7 = .ok (.aload_n 1, 1) := by decide +kernel
theorem dX10_obey_8 : decode cX10_obey 8 = .ok (.getfield 246, 3) := by decide +kernel
theorem dX10_obey_11 : decode cX10_obey 11 = .ok (.iload_n 2, 1) := by decide +kernel
theorem dX10_obey_12 : decode cX10_obey 12 = .ok (.iaload, 1) := by decide +kernel
theorem dX10_obey_13 : decode cX10_obey 13 = .ok (.istore 4, 2) := by decide +kernel
theorem dX10_obey_15 : decode cX10_obey 15 = .ok (.aload_n 0, 1) := by decide +kernel
theorem dX10_obey_16 : decode cX10_obey 16 = .ok (.getfield 12, 3) := by decide +kernel
theorem dX10_obey_19 : decode cX10_obey 19 = .ok (.iload_n 3, 1) := by decide +kernel
theorem dX10_obey_20 : decode cX10_obey 20 = .ok (.invokevirtual 71, 3) := by decide +kernel
theorem dX10_obey_23 : decode cX10_obey 23 = .ok (.ifCond .eq 31, 3) := by decide +kernel
theorem dX10_obey_26 : decode cX10_obey 26 = .ok (.aload_n 0, 1) := by decide +kernel
theorem dX10_obey_27 : decode cX10_obey 27 = .ok (.getfield 12, 3) := by decide +kernel
theorem dX10_obey_30 : decode cX10_obey 30 = .ok (.iload 4, 2) := by decide +kernel
theorem dX10_obey_32 : decode cX10_obey 32 = .ok (.invokevirtual 71, 3) := by decide +kernel
theorem dX10_obey_35 : decode cX10_obey 35 = .ok (.ifCond .eq 19, 3) := by decide +kernel
theorem dX10_obey_38 : decode cX10_obey 38 = .ok (.aload_n 0, 1) := by decide +kernel
theorem dX10_obey_39 : decode cX10_obey 39 = .ok (.getfield 12, 3) := by decide +kernel
theorem dX10_obey_42 : decode cX10_obey 42 = .ok (.getfield 75, 3) := by decide +kernel
theorem dX10_obey_45 : decode cX10_obey 45 = .ok (.iload_n 3, 1) := by decide +kernel
theorem dX10_obey_46 : decode cX10_obey 46 = .ok (.aaload, 1) := by decide +kernel
theorem dX10_obey_47 : decode cX10_obey 47 = .ok (.iload 4, 2) := by decide +kernel
theorem dX10_obey_49 : decode cX10_obey 49 = .ok (.iaload, 1) := by decide +kernel
theorem dX10_obey_50 : decode cX10_obey 50 = .ok (.iconst (-1), 1) := by decide +kernel
theorem dX10_obey_51 : decode cX10_obey 51 = .ok (.if_icmp .ne 4, 3) := by decide +kernel
theorem dX10_obey_54 : decode cX10_obey 54 = .ok (.return_, 1) := by decide +kernel
theorem dX10_obey_55 : decode cX10_obey 55 = .ok (.aload_n 1, 1) := by decide +kernel
theorem dX10_obey_56 : decode cX10_obey 56 = .ok (.getfield 249, 3) := by decide +kernel
theorem dX10_obey_59 : decode cX10_obey 59 = .ok (.iload_n 2, 1) := by decide +kernel
theorem dX10_obey_60 : decode cX10_obey 60 = .ok (.iaload, 1) := by decide +kernel
theorem dX10_obey_61 : decode cX10_obey 61 = .ok (.istore 5, 2) := by decide +kernel
theorem dX10_obey_63 : decode cX10_obey 63 = .ok (.aload_n 0, 1) := by decide +kernel
theorem dX10_obey_64 : decode cX10_obey 64 = .ok (.getfield 12, 3) := by decide +kernel
theorem dX10_obey_67 : decode cX10_obey 67 = .ok (.getfield 126, 3) := by decide +kernel
theorem dX10_obey_70 : decode cX10_obey 70 = .ok (.aload_n 0, 1) := by decide +kernel
theorem dX10_obey_71 : decode cX10_obey 71 = .ok (.getfield 12, 3) := by decide +kernel
theorem dX10_obey_74 : decode cX10_obey 74 = .ok (.getfield 75, 3) := by decide +kernel
theorem dX10_obey_77 : decode cX10_obey 77 = .ok (.iload_n 3, 1) := by decide +kernel
theorem dX10_obey_78 : decode cX10_obey 78 = .ok (.aaload, 1) := by decide +kernel
theorem dX10_obey_79 : decode cX10_obey 79 = .ok (.iload 4, 2) := by decide +kernel
theorem dX10_obey_81 : decode cX10_obey 81 = .ok (.iaload, 1) := by decide +kernel
theorem dX10_obey_82 : decode cX10_obey 82 = .ok (.invokestatic 252, 3) := by decide +kernel
theorem dX10_obey_85 : decode cX10_obey 85 = .ok (.iadd, 1) := by decide +kernel
theorem dX10_obey_86 : decode cX10_obey 86 = .ok (.istore 6, 2) := by decide +kernel
theorem dX10_obey_88 : decode cX10_obey 88 = .ok (.aload_n 1, 1) := by decide +kernel
theorem dX10_obey_89 : decode cX10_obey 89 = .ok (.getfield 256, 3) := by decide +kernel
theorem dX10_obey_92 : decode cX10_obey 92 = .ok (.iload_n 2, 1) := by decide +kernel
theorem dX10_obey_93 : decode cX10_obey 93 = .ok (.iaload, 1) := by decide +kernel
theorem dX10_obey_94 : decode cX10_obey 94 = .ok (.istore 7, 2) := by decide +kernel
theorem dX10_obey_96 : decode cX10_obey 96 = .ok (.aload_n 0, 1) := by decide +kernel
theorem dX10_obey_97 : decode cX10_obey 97 = .ok (.getfield 12, 3) := by decide +kernel
theorem dX10_obey_100 : decode cX10_obey 100 = .ok (.getfield 86, 3) := by decide +kernel
theorem dX10_obey_103 : decode cX10_obey 103 = .ok (.iload_n 3, 1) := by decide +kernel
theorem dX10_obey_104 : decode cX10_obey 104 = .ok (.aaload, 1) := by decide +kernel
theorem dX10_obey_105 : decode cX10_obey 105 = .ok (.astore 8, 2) := by decide +kernel
theorem dX10_obey_107 : decode cX10_obey 107 = .ok (.bipush 60, 2) := by decide +kernel
theorem dX10_obey_109 : decode cX10_obey 109 = .ok (.istore 9, 2) := by decide +kernel
theorem dX10_obey_111 : decode cX10_obey 111 = .ok (.iload 9, 2) := by decide +kernel
theorem dX10_obey_113 : decode cX10_obey 113 = .ok (.ifCond .lt 68, 3) := by decide +kernel
theorem dX10_obey_116 : decode cX10_obey 116 = .ok (.iload 7, 2) := by decide +kernel
theorem dX10_obey_118 : decode cX10_obey 118 = .ok (.ifCond .le 63, 3) := by decide +kernel
theorem dX10_obey_121 : decode cX10_obey 121 = .ok (.aload_n 0, 1) := by decide +kernel
theorem dX10_obey_122 : decode cX10_obey 122 = .ok (.getfield 26, 3) := by decide +kernel
theorem dX10_obey_125 : decode cX10_obey 125 = .ok (.getfield 142, 3) := by decide +kernel
theorem dX10_obey_128 : decode cX10_obey 128 = .ok (.bipush 60, 2) := by decide +kernel
theorem dX10_obey_130 : decode cX10_obey 130 = .ok (.if_icmp .ge 51, 3) := by decide +kernel
theorem dX10_obey_133 : decode cX10_obey 133 = .ok (.aload 8, 2) := by decide +kernel
theorem dX10_obey_135 : decode cX10_obey 135 = .ok (.iload 5, 2) := by decide +kernel
theorem dX10_obey_137 : decode cX10_obey 137 = .ok (.iload 9, 2) := by decide +kernel
theorem dX10_obey_139 : decode cX10_obey 139 = .ok (.iload 7, 2) := by decide +kernel
theorem dX10_obey_141 : decode cX10_obey 141 = .ok (.invokevirtual 259, 3) := by decide +kernel
theorem dX10_obey_144 : decode cX10_obey 144 = .ok (.istore 10, 2) := by decide +kernel
theorem dX10_obey_146 : decode cX10_obey 146 = .ok (.iload 10, 2) := by decide +kernel
theorem dX10_obey_148 : decode cX10_obey 148 = .ok (.ifCond .le 27, 3) := by decide +kernel
theorem dX10_obey_151 : decode cX10_obey 151 = .ok (.aload_n 0, 1) := by decide +kernel
theorem dX10_obey_152 : decode cX10_obey 152 = .ok (.getfield 26, 3) := by decide +kernel
theorem dX10_obey_155 : decode cX10_obey 155 = .ok (.iload 4, 2) := by decide +kernel
theorem dX10_obey_157 : decode cX10_obey 157 = .ok (.iload 5, 2) := by decide +kernel
theorem dX10_obey_159 : decode cX10_obey 159 = .ok (.iload 9, 2) := by decide +kernel
theorem dX10_obey_161 : decode cX10_obey 161 = .ok (.iload 10, 2) := by decide +kernel
theorem dX10_obey_163 : decode cX10_obey 163 = .ok (.iload 6, 2) := by decide +kernel
theorem dX10_obey_165 : decode cX10_obey 165 = .ok (.invokevirtual 262, 3) := by decide +kernel
theorem dX10_obey_168 : decode cX10_obey 168 = .ok (.iload 7, 2) := by decide +kernel
theorem dX10_obey_170 : decode cX10_obey 170 = .ok (.iload 10, 2) := by decide +kernel
theorem dX10_obey_172 : decode cX10_obey 172 = .ok (.isub, 1) := by decide +kernel
theorem dX10_obey_173 : decode cX10_obey 173 = .ok (.istore 7, 2) := by decide +kernel
theorem dX10_obey_175 : decode cX10_obey 175 = .ok (.iinc 9 (-1), 3) := by decide +kernel
theorem dX10_obey_178 : decode cX10_obey 178 = .ok (.goto (-67), 3) := by decide +kernel
theorem dX10_obey_181 : decode cX10_obey 181 = .ok (.return_, 1) := by decide +kernel
theorem dX10_within_0 : decode cX10_within 0 = .ok (.iload_n 0, 1) := by decide +kernel
theorem dX10_within_1 : decode cX10_within 1 = .ok (.iload_n 1, 1) := by decide +kernel
theorem dX10_within_2 : decode cX10_within 2 = .ok (.if_icmp .lt 12, 3) := by decide +kernel
theorem dX10_within_5 : decode cX10_within 5 = .ok (.iload_n 0, 1) := by decide +kernel
theorem dX10_within_6 : decode cX10_within 6 = .ok (.iload_n 2, 1) := by decide +kernel
theorem dX10_within_7 : decode cX10_within 7 = .ok (.if_icmp .gt 7, 3) := by decide +kernel
theorem dX10_within_10 : decode cX10_within 10 = .ok (.iconst 1, 1) := by decide +kernel
theorem dX10_within_11 : decode cX10_within 11 = .ok (.goto 4, 3) := by decide +kernel
theorem dX10_within_14 : decode cX10_within 14 = .ok (.iconst 0, 1) := by decide +kernel
theorem dX10_within_15 : decode cX10_within 15 = .ok (.ireturn, 1) := by decide +kernel
theorem dX10_isKind_0 : decode cX10_isKind 0 = .ok (.iload_n 0, 1) := by decide +kernel
theorem dX10_isKind_1 : decode cX10_isKind 1 = .ok (.iconst 0, 1) := by decide +kernel
theorem dX10_isKind_2 : decode cX10_isKind 2 = .ok (.iconst 2, 1) := by decide +kernel
theorem dX10_isKind_3 : decode cX10_isKind 3 = .ok (.invokestatic 63, 3) := by decide +kernel
theorem dX10_isKind_6 : decode cX10_isKind 6 = .ok (.ireturn, 1) := by decide +kernel
theorem dX10_subject_0 : decode cX10_subject 0 = .ok (.iload_n 0, 1) := by decide +kernel
theorem dX10_subject_1 : decode cX10_subject 1 = .ok (.iconst 3, 1) := by decide +kernel
theorem dX10_subject_2 : decode cX10_subject 2 = .ok (.imul, 1) := by decide +kernel
theorem dX10_subject_3 : decode cX10_subject 3 = .ok (.iload_n 1, 1) := by decide +kernel
theorem dX10_subject_4 : decode cX10_subject 4 = .ok (.iadd, 1) := by decide +kernel
theorem dX10_subject_5 : decode cX10_subject 5 = .ok (.ireturn, 1) := by decide +kernel
theorem dX10_monthsOnTheWay_0 : decode cX10_monthsOnTheWay 0 = .ok (.iload_n 0, 1) := by decide +kernel
theorem dX10_monthsOnTheWay_1 : decode cX10_monthsOnTheWay 1 = .ok (.bipush 30, 2) := by decide +kernel
theorem dX10_monthsOnTheWay_3 : decode cX10_monthsOnTheWay 3 = .ok (.iadd, 1) := by decide +kernel
theorem dX10_monthsOnTheWay_4 : decode cX10_monthsOnTheWay 4 = .ok (.iconst 1, 1) := by decide +kernel
theorem dX10_monthsOnTheWay_5 : decode cX10_monthsOnTheWay 5 = .ok (.isub, 1) := by decide +kernel
theorem dX10_monthsOnTheWay_6 : decode cX10_monthsOnTheWay 6 = .ok (.bipush 30, 2) := by decide +kernel
theorem dX10_monthsOnTheWay_8 : decode cX10_monthsOnTheWay 8 = .ok (.idiv, 1) := by decide +kernel
theorem dX10_monthsOnTheWay_9 : decode cX10_monthsOnTheWay 9 = .ok (.ireturn, 1) := by decide +kernel
theorem dX11_init_0 : decode cX11_init 0 = .ok (.aload_n 0, 1) := by decide +kernel
theorem dX11_init_1 : decode cX11_init 1 = .ok (.invokespecial 1, 3) := by decide +kernel
theorem dX11_init_4 : decode cX11_init 4 = .ok (.aload_n 0, 1) := by decide +kernel
theorem dX11_init_5 : decode cX11_init 5 = .ok (.bipush 8, 2) := by decide +kernel
theorem dX11_init_7 : decode cX11_init 7 = .ok (.newarray .int, 2) := by decide +kernel
theorem dX11_init_9 : decode cX11_init 9 = .ok (.putfield 7, 3) := by decide +kernel
theorem dX11_init_12 : decode cX11_init 12 = .ok (.aload_n 0, 1) := by decide +kernel
theorem dX11_init_13 : decode cX11_init 13 = .ok (.bipush 8, 2) := by decide +kernel
theorem dX11_init_15 : decode cX11_init 15 = .ok (.newarray .int, 2) := by decide +kernel
theorem dX11_init_17 : decode cX11_init 17 = .ok (.putfield 13, 3) := by decide +kernel
theorem dX11_init_20 : decode cX11_init 20 = .ok (.aload_n 0, 1) := by decide +kernel
theorem dX11_init_21 : decode cX11_init 21 = .ok (.bipush 8, 2) := by decide +kernel
theorem dX11_init_23 : decode cX11_init 23 = .ok (.newarray .int, 2) := by decide +kernel
theorem dX11_init_25 : decode cX11_init 25 = .ok (.putfield 16, 3) := by decide +kernel
theorem dX11_init_28 : decode cX11_init 28 = .ok (.aload_n 0, 1) := by decide +kernel
theorem dX11_init_29 : decode cX11_init 29 = .ok (.bipush 64, 2) := by decide +kernel
theorem dX11_init_31 : decode cX11_init 31 = .ok (.newarray .int, 2) := by decide +kernel
theorem dX11_init_33 : decode cX11_init 33 = .ok (.putfield 19, 3) := by decide +kernel
theorem dX11_init_36 : decode cX11_init 36 = .ok (.aload_n 0, 1) := by decide +kernel
theorem dX11_init_37 : decode cX11_init 37 = .ok (.iconst 3, 1) := by decide +kernel
theorem dX11_init_38 : decode cX11_init 38 = .ok (.newarray .int, 2) := by decide +kernel
theorem dX11_init_40 : decode cX11_init 40 = .ok (.putfield 22, 3) := by decide +kernel
theorem dX11_init_43 : decode cX11_init 43 = .ok (.aload_n 0, 1) := by decide +kernel
theorem dX11_init_44 : decode cX11_init 44 = .ok (.sipush 1464, 3) := by decide +kernel
theorem dX11_init_47 : decode cX11_init 47 = .ok (.newarray .int, 2) := by decide +kernel
theorem dX11_init_49 : decode cX11_init 49 = .ok (.putfield 25, 3) := by decide +kernel
theorem dX11_init_52 : decode cX11_init 52 = .ok (.aload_n 0, 1) := by decide +kernel
theorem dX11_init_53 : decode cX11_init 53 = .ok (.bipush 6, 2) := by decide +kernel
theorem dX11_init_55 : decode cX11_init 55 = .ok (.newarray .int, 2) := by decide +kernel
theorem dX11_init_57 : decode cX11_init 57 = .ok (.putfield 28, 3) := by decide +kernel
theorem dX11_init_60 : decode cX11_init 60 = .ok (.aload_n 0, 1) := by decide +kernel
theorem dX11_init_61 : decode cX11_init 61 = .ok (.sipush 1020, 3) := by decide +kernel
theorem dX11_init_64 : decode cX11_init 64 = .ok (.newarray .byte, 2) := by decide +kernel
theorem dX11_init_66 : decode cX11_init 66 = .ok (.putfield 31, 3) := by decide +kernel
theorem dX11_init_69 : decode cX11_init 69 = .ok (.aload_n 0, 1) := by decide +kernel
theorem dX11_init_70 : decode cX11_init 70 = .ok (.sipush 1000, 3) := by decide +kernel
theorem dX11_init_73 : decode cX11_init 73 = .ok (.newarray .byte, 2) := by decide +kernel
theorem dX11_init_75 : decode cX11_init 75 = .ok (.putfield 35, 3) := by decide +kernel
theorem dX11_init_78 : decode cX11_init 78 = .ok (.aload_n 0, 1) := by decide +kernel
theorem dX11_init_79 : decode cX11_init 79 = .ok (.iconst (-1), 1) := by decide +kernel
theorem dX11_init_80 : decode cX11_init 80 = .ok (.putfield 38, 3) := by decide +kernel
theorem dX11_init_83 : decode cX11_init 83 = .ok (.aload_n 0, 1) := by decide +kernel
theorem dX11_init_84 : decode cX11_init 84 = .ok (.iconst 2, 1) := by decide +kernel
theorem dX11_init_85 : decode cX11_init 85 = .ok (.newarray .int, 2) := by decide +kernel
theorem dX11_init_87 : decode cX11_init 87 = .ok (.putfield 42, 3) := by decide +kernel
theorem dX11_init_90 : decode cX11_init 90 = .ok (.aload_n 0, 1) := by decide +kernel
theorem dX11_init_91 : decode cX11_init 91 = .ok (.bipush 24, 2) := by decide +kernel
theorem dX11_init_93 : decode cX11_init 93 = .ok (.newarray .int, 2) := by decide +kernel
theorem dX11_init_95 : decode cX11_init 95 = .ok (.putfield 45, 3) := by decide +kernel
theorem dX11_init_98 : decode cX11_init 98 = .ok (.aload_n 0, 1) := by decide +kernel
theorem dX11_init_99 : decode cX11_init 99 = .ok (.bipush 24, 2) := by decide +kernel
theorem dX11_init_101 : decode cX11_init 101 = .ok (.newarray .int, 2) := by decide +kernel
theorem dX11_init_103 : decode cX11_init 103 = .ok (.putfield 48, 3) := by decide +kernel
theorem dX11_init_106 : decode cX11_init 106 = .ok (.aload_n 0, 1) := by decide +kernel
theorem dX11_init_107 : decode cX11_init 107 = .ok (.bipush 24, 2) := by decide +kernel
theorem dX11_init_109 : decode cX11_init 109 = .ok (.newarray .int, 2) := by decide +kernel
theorem dX11_init_111 : decode cX11_init 111 = .ok (.putfield 51, 3) := by decide +kernel
theorem dX11_init_114 : decode cX11_init 114 = .ok (.aload_n 0, 1) := by decide +kernel
theorem dX11_init_115 : decode cX11_init 115 = .ok (.bipush 24, 2) := by decide +kernel
theorem dX11_init_117 : decode cX11_init 117 = .ok (.newarray .int, 2) := by decide +kernel
theorem dX11_init_119 : decode cX11_init 119 = .ok (.putfield 54, 3) := by decide +kernel
theorem dX11_init_122 : decode cX11_init 122 = .ok (.aload_n 0, 1) := by decide +kernel
theorem dX11_init_123 : decode cX11_init 123 = .ok (.bipush 24, 2) := by decide +kernel
theorem dX11_init_125 : decode cX11_init 125 = .ok (.newarray .int, 2) := by decide +kernel
theorem dX11_init_127 : decode cX11_init 127 = .ok (.putfield 57, 3) := by decide +kernel
theorem dX11_init_130 : decode cX11_init 130 = .ok (.aload_n 0, 1) := by decide +kernel
theorem dX11_init_131 : decode cX11_init 131 = .ok (.bipush 24, 2) := by decide +kernel
theorem dX11_init_133 : decode cX11_init 133 = .ok (.newarray .int, 2) := by decide +kernel
theorem dX11_init_135 : decode cX11_init 135 = .ok (.putfield 60, 3) := by decide +kernel
theorem dX11_init_138 : decode cX11_init 138 = .ok (.aload_n 0, 1) := by decide +kernel
theorem dX11_init_139 : decode cX11_init 139 = .ok (.sipush 2000, 3) := by decide +kernel
theorem dX11_init_142 : decode cX11_init 142 = .ok (.newarray .int, 2) := by decide +kernel
theorem dX11_init_144 : decode cX11_init 144 = .ok (.putfield 63, 3) := by decide +kernel
theorem dX11_init_147 : decode cX11_init 147 = .ok (.aload_n 0, 1) := by decide +kernel
theorem dX11_init_148 : decode cX11_init 148 = .ok (.sipush 2000, 3) := by decide +kernel
theorem dX11_init_151 : decode cX11_init 151 = .ok (.newarray .int, 2) := by decide +kernel
theorem dX11_init_153 : decode cX11_init 153 = .ok (.putfield 66, 3) := by decide +kernel
theorem dX11_init_156 : decode cX11_init 156 = .ok (.aload_n 0, 1) := by decide +kernel
theorem dX11_init_157 : decode cX11_init 157 = .ok (.sipush 2000, 3) := by decide +kernel
theorem dX11_init_160 : decode cX11_init 160 = .ok (.newarray .int, 2) := by decide +kernel
theorem dX11_init_162 : decode cX11_init 162 = .ok (.putfield 69, 3) := by decide +kernel
theorem dX11_init_165 : decode cX11_init 165 = .ok (.aload_n 0, 1) := by decide +kernel
theorem dX11_init_166 : decode cX11_init 166 = .ok (.bipush 60, 2) := by decide +kernel
theorem dX11_init_168 : decode cX11_init 168 = .ok (.newarray .int, 2) := by decide +kernel
theorem dX11_init_170 : decode cX11_init 170 = .ok (.putfield 72, 3) := by decide +kernel
theorem dX11_init_173 : decode cX11_init 173 = .ok (.aload_n 0, 1) := by decide +kernel
theorem dX11_init_174 : decode cX11_init 174 = .ok (.bipush 100, 2) := by decide +kernel
theorem dX11_init_176 : decode cX11_init 176 = .ok (.newarray .int, 2) := by decide +kernel
theorem dX11_init_178 : decode cX11_init 178 = .ok (.putfield 75, 3) := by decide +kernel
theorem dX11_init_181 : decode cX11_init 181 = .ok (.aload_n 0, 1) := by decide +kernel
theorem dX11_init_182 : decode cX11_init 182 = .ok (.bipush 60, 2) := by decide +kernel
theorem dX11_init_184 : decode cX11_init 184 = .ok (.newarray .int, 2) := by decide +kernel
theorem dX11_init_186 : decode cX11_init 186 = .ok (.putfield 78, 3) := by decide +kernel
theorem dX11_init_189 : decode cX11_init 189 = .ok (.aload_n 0, 1) := by decide +kernel
theorem dX11_init_190 : decode cX11_init 190 = .ok (.bipush 60, 2) := by decide +kernel
theorem dX11_init_192 : decode cX11_init 192 = .ok (.newarray .int, 2) := by decide +kernel
theorem dX11_init_194 : decode cX11_init 194 = .ok (.putfield 81, 3) := by decide +kernel
theorem dX11_init_197 : decode cX11_init 197 = .ok (.aload_n 0, 1) := by decide +kernel
theorem dX11_init_198 : decode cX11_init 198 = .ok (.bipush 60, 2) := by decide +kernel
theorem dX11_init_200 : decode cX11_init 200 = .ok (.newarray .int, 2) := by decide +kernel
theorem dX11_init_202 : decode cX11_init 202 = .ok (.putfield 84, 3) := by decide +kernel
theorem dX11_init_205 : decode cX11_init 205 = .ok (.aload_n 0, 1) := by decide +kernel
theorem dX11_init_206 : decode cX11_init 206 = .ok (.bipush 60, 2) := by decide +kernel
theorem dX11_init_208 : decode cX11_init 208 = .ok (.newarray .int, 2) := by decide +kernel
theorem dX11_init_210 : decode cX11_init 210 = .ok (.putfield 87, 3) := by decide +kernel
theorem dX11_init_213 : decode cX11_init 213 = .ok (.aload_n 0, 1) := by decide +kernel
theorem dX11_init_214 : decode cX11_init 214 = .ok (.bipush 60, 2) := by decide +kernel
theorem dX11_init_216 : decode cX11_init 216 = .ok (.newarray .int, 2) := by decide +kernel
theorem dX11_init_218 : decode cX11_init 218 = .ok (.putfield 90, 3) := by decide +kernel
theorem dX11_init_221 : decode cX11_init 221 = .ok (.aload_n 0, 1) := by decide +kernel
theorem dX11_init_222 : decode cX11_init 222 = .ok (.bipush 10, 2) := by decide +kernel
theorem dX11_init_224 : decode cX11_init 224 = .ok (.newarray .int, 2) := by decide +kernel
theorem dX11_init_226 : decode cX11_init 226 = .ok (.putfield 93, 3) := by decide +kernel
theorem dX11_init_229 : decode cX11_init 229 = .ok (.aload_n 0, 1) := by decide +kernel
theorem dX11_init_230 : decode cX11_init 230 = .ok (.bipush 10, 2) := by decide +kernel
theorem dX11_init_232 : decode cX11_init 232 = .ok (.newarray .int, 2) := by decide +kernel
theorem dX11_init_234 : decode cX11_init 234 = .ok (.putfield 96, 3) := by decide +kernel
theorem dX11_init_237 : decode cX11_init 237 = .ok (.aload_n 0, 1) := by decide +kernel
theorem dX11_init_238 : decode cX11_init 238 = .ok (.bipush 10, 2) := by decide +kernel
theorem dX11_init_240 : decode cX11_init 240 = .ok (.newarray .int, 2) := by decide +kernel
theorem dX11_init_242 : decode cX11_init 242 = .ok (.putfield 99, 3) := by decide +kernel
theorem dX11_init_245 : decode cX11_init 245 = .ok (.aload_n 0, 1) := by decide +kernel
theorem dX11_init_246 : decode cX11_init 246 = .ok (.bipush 10, 2) := by decide +kernel
theorem dX11_init_248 : decode cX11_init 248 = .ok (.newarray .int, 2) := by decide +kernel
theorem dX11_init_250 : decode cX11_init 250 = .ok (.putfield 102, 3) := by decide +kernel
theorem dX11_init_253 : decode cX11_init 253 = .ok (.aload_n 0, 1) := by decide +kernel
theorem dX11_init_254 : decode cX11_init 254 = .ok (.sipush 488, 3) := by decide +kernel
theorem dX11_init_257 : decode cX11_init 257 = .ok (.newarray .int, 2) := by decide +kernel
theorem dX11_init_259 : decode cX11_init 259 = .ok (.putfield 105, 3) := by decide +kernel
theorem dX11_init_262 : decode cX11_init 262 = .ok (.aload_n 0, 1) := by decide +kernel
theorem dX11_init_263 : decode cX11_init 263 = .ok (.sipush 4880, 3) := by decide +kernel
theorem dX11_init_266 : decode cX11_init 266 = .ok (.newarray .int, 2) := by decide +kernel
theorem dX11_init_268 : decode cX11_init 268 = .ok (.putfield 108, 3) := by decide +kernel
theorem dX11_init_271 : decode cX11_init 271 = .ok (.aload_n 0, 1) := by decide +kernel
theorem dX11_init_272 : decode cX11_init 272 = .ok (.bipush 10, 2) := by decide +kernel
theorem dX11_init_274 : decode cX11_init 274 = .ok (.newarray .int, 2) := by decide +kernel
theorem dX11_init_276 : decode cX11_init 276 = .ok (.putfield 111, 3) := by decide +kernel
theorem dX11_init_279 : decode cX11_init 279 = .ok (.aload_n 0, 1) := by decide +kernel
theorem dX11_init_280 : decode cX11_init 280 = .ok (.sipush 488, 3) := by decide +kernel
theorem dX11_init_283 : decode cX11_init 283 = .ok (.newarray .int, 2) := by decide +kernel
theorem dX11_init_285 : decode cX11_init 285 = .ok (.putfield 114, 3) := by decide +kernel
theorem dX11_init_288 : decode cX11_init 288 = .ok (.aload_n 0, 1) := by decide +kernel
theorem dX11_init_289 : decode cX11_init 289 = .ok (.bipush 10, 2) := by decide +kernel
theorem dX11_init_291 : decode cX11_init 291 = .ok (.newarray .int, 2) := by decide +kernel
theorem dX11_init_293 : decode cX11_init 293 = .ok (.putfield 117, 3) := by decide +kernel
theorem dX11_init_296 : decode cX11_init 296 = .ok (.aload_n 0, 1) := by decide +kernel
theorem dX11_init_297 : decode cX11_init 297 = .ok (.sipush 488, 3) := by decide +kernel
theorem dX11_init_300 : decode cX11_init 300 = .ok (.newarray .int, 2) := by decide +kernel
theorem dX11_init_302 : decode cX11_init 302 = .ok (.putfield 120, 3) := by decide +kernel
theorem dX11_init_305 : decode cX11_init 305 = .ok (.aload_n 0, 1) := by decide +kernel
theorem dX11_init_306 : decode cX11_init 306 = .ok (.bipush 10, 2) := by decide +kernel
theorem dX11_init_308 : decode cX11_init 308 = .ok (.newarray .int, 2) := by decide +kernel
theorem dX11_init_310 : decode cX11_init 310 = .ok (.putfield 123, 3) := by decide +kernel
theorem dX11_init_313 : decode cX11_init 313 = .ok (.aload_n 0, 1) := by decide +kernel
theorem dX11_init_314 : decode cX11_init 314 = .ok (.bipush 8, 2) := by decide +kernel
theorem dX11_init_316 : decode cX11_init 316 = .ok (.newarray .int, 2) := by decide +kernel
theorem dX11_init_318 : decode cX11_init 318 = .ok (.putfield 126, 3) := by decide +kernel
theorem dX11_init_321 : decode cX11_init 321 = .ok (.aload_n 0, 1) := by decide +kernel
theorem dX11_init_322 : decode cX11_init 322 = .ok (.bipush 60, 2) := by decide +kernel
theorem dX11_init_324 : decode cX11_init 324 = .ok (.newarray .int, 2) := by decide +kernel
theorem dX11_init_326 : decode cX11_init 326 = .ok (.putfield 129, 3) := by decide +kernel
theorem dX11_init_329 : decode cX11_init 329 = .ok (.aload_n 0, 1) := by decide +kernel
theorem dX11_init_330 : decode cX11_init 330 = .ok (.bipush 60, 2) := by decide +kernel
theorem dX11_init_332 : decode cX11_init 332 = .ok (.newarray .int, 2) := by decide +kernel
theorem dX11_init_334 : decode cX11_init 334 = .ok (.putfield 132, 3) := by decide +kernel
theorem dX11_init_337 : decode cX11_init 337 = .ok (.aload_n 0, 1) := by decide +kernel
theorem dX11_init_338 : decode cX11_init 338 = .ok (.bipush 60, 2) := by decide +kernel
theorem dX11_init_340 : decode cX11_init 340 = .ok (.newarray .int, 2) := by decide +kernel
theorem dX11_init_342 : decode cX11_init 342 = .ok (.putfield 135, 3) := by decide +kernel
theorem dX11_init_345 : decode cX11_init 345 = .ok (.aload_n 0, 1) := by decide +kernel
theorem dX11_init_346 : decode cX11_init 346 = .ok (.bipush 60, 2) := by decide +kernel
theorem dX11_init_348 : decode cX11_init 348 = .ok (.newarray .int, 2) := by decide +kernel
theorem dX11_init_350 : decode cX11_init 350 = .ok (.putfield 138, 3) := by decide +kernel
theorem dX11_init_353 : decode cX11_init 353 = .ok (.aload_n 0, 1) := by decide +kernel
theorem dX11_init_354 : decode cX11_init 354 = .ok (.bipush 60, 2) := by decide +kernel
theorem dX11_init_356 : decode cX11_init 356 = .ok (.newarray .int, 2) := by decide +kernel
theorem dX11_init_358 : decode cX11_init 358 = .ok (.putfield 141, 3) := by decide +kernel
theorem dX11_init_361 : decode cX11_init 361 = .ok (.aload_n 0, 1) := by decide +kernel
theorem dX11_init_362 : decode cX11_init 362 = .ok (.bipush 60, 2) := by decide +kernel
theorem dX11_init_364 : decode cX11_init 364 = .ok (.newarray .int, 2) := by decide +kernel
theorem dX11_init_366 : decode cX11_init 366 = .ok (.putfield 144, 3) := by decide +kernel
theorem dX11_init_369 : decode cX11_init 369 = .ok (.aload_n 0, 1) := by decide +kernel
theorem dX11_init_370 : decode cX11_init 370 = .ok (.bipush 60, 2) := by decide +kernel
theorem dX11_init_372 : decode cX11_init 372 = .ok (.newarray .int, 2) := by decide +kernel
theorem dX11_init_374 : decode cX11_init 374 = .ok (.putfield 147, 3) := by decide +kernel
theorem dX11_init_377 : decode cX11_init 377 = .ok (.aload_n 0, 1) := by decide +kernel
theorem dX11_init_378 : decode cX11_init 378 = .ok (.iconst 5, 1) := by decide +kernel
theorem dX11_init_379 : decode cX11_init 379 = .ok (.newarray .int, 2) := by decide +kernel
theorem dX11_init_381 : decode cX11_init 381 = .ok (.putfield 150, 3) := by decide +kernel
theorem dX11_init_384 : decode cX11_init 384 = .ok (.iconst 0, 1) := by decide +kernel
theorem dX11_init_385 : decode cX11_init 385 = .ok (.istore_n 1, 1) := by decide +kernel
theorem dX11_init_386 : decode cX11_init 386 = .ok (.iload_n 1, 1) := by decide +kernel
theorem dX11_init_387 : decode cX11_init 387 = .ok (.bipush 64, 2) := by decide +kernel
theorem dX11_init_389 : decode cX11_init 389 = .ok (.if_icmp .ge 31, 3) := by decide +kernel
theorem dX11_init_392 : decode cX11_init 392 = .ok (.aload_n 0, 1) := by decide +kernel
theorem dX11_init_393 : decode cX11_init 393 = .ok (.getfield 19, 3) := by decide +kernel
theorem dX11_init_396 : decode cX11_init 396 = .ok (.iload_n 1, 1) := by decide +kernel
theorem dX11_init_397 : decode cX11_init 397 = .ok (.iload_n 1, 1) := by decide +kernel
theorem dX11_init_398 : decode cX11_init 398 = .ok (.bipush 8, 2) := by decide +kernel
theorem dX11_init_400 : decode cX11_init 400 = .ok (.idiv, 1) := by decide +kernel
theorem dX11_init_401 : decode cX11_init 401 = .ok (.iload_n 1, 1) := by decide +kernel
theorem dX11_init_402 : decode cX11_init 402 = .ok (.bipush 8, 2) := by decide +kernel
theorem dX11_init_404 : decode cX11_init 404 = .ok (.irem, 1) := by decide +kernel
theorem dX11_init_405 : decode cX11_init 405 = .ok (.if_icmp .ne 7, 3) := by decide +kernel
theorem dX11_init_408 : decode cX11_init 408 = .ok (.iconst 0, 1) := by decide +kernel
theorem dX11_init_409 : decode cX11_init 409 = .ok (.goto 4, 3) := by decide +kernel
theorem dX11_init_412 : decode cX11_init 412 = .ok (.iconst (-1), 1) := by decide +kernel
theorem dX11_init_413 : decode cX11_init 413 = .ok (.iastore, 1) := by decide +kernel
theorem dX11_init_414 : decode cX11_init 414 = .ok (.iinc 1 1, 3) := by decide +kernel
theorem dX11_init_417 : decode cX11_init 417 = .ok (.goto (-31), 3) := by decide +kernel
theorem dX11_init_420 : decode cX11_init 420 = .ok (.aload_n 0, 1) := by decide +kernel
theorem dX11_init_421 : decode cX11_init 421 = .ok (.getfield 22, 3) := by decide +kernel
theorem dX11_init_424 : decode cX11_init 424 = .ok (.iconst 0, 1) := by decide +kernel
theorem dX11_init_425 : decode cX11_init 425 = .ok (.bipush 12, 2) := by decide +kernel
theorem dX11_init_427 : decode cX11_init 427 = .ok (.iastore, 1) := by decide +kernel
end
section
theorem dX11_init_428 : decode cX11_init 428 = .ok (.aload_n 0, 1) := by decide +kernel
theorem dX11_init_429 : decode cX11_init 429 = .ok (.getfield 22, 3) := by decide +kernel
theorem dX11_init_432 : decode cX11_init 432 = .ok (.iconst 1, 1) := by decide +kernel
theorem dX11_init_433 : decode cX11_init 433 = .ok (.bipush 60, 2) := by decide +kernel
theorem dX11_init_435 : decode cX11_init 435 = .ok (.iastore, 1) := by decide +kernel
theorem dX11_init_436 : decode cX11_init 436 = .ok (.aload_n 0, 1) := by decide +kernel
theorem dX11_init_437 : decode cX11_init 437 = .ok (.getfield 22, 3) := by decide +kernel
theorem dX11_init_440 : decode cX11_init 440 = .ok (.iconst 2, 1) := by decide +kernel
theorem dX11_init_441 : decode cX11_init 441 = .ok (.bipush 24, 2) := by decide +kernel
theorem dX11_init_443 : decode cX11_init 443 = .ok (.iastore, 1) := by decide +kernel
theorem dX11_init_444 : decode cX11_init 444 = .ok (.return_, 1) := by decide +kernel
theorem dX11_isTown_0 : decode cX11_isTown 0 = .ok (.iload_n 1, 1) := by decide +kernel
theorem dX11_isTown_1 : decode cX11_isTown 1 = .ok (.ifCond .lt 15, 3) := by decide +kernel
theorem dX11_isTown_4 : decode cX11_isTown 4 = .ok (.iload_n 1, 1) := by decide +kernel
theorem dX11_isTown_5 : decode cX11_isTown 5 = .ok (.aload_n 0, 1) := by decide +kernel
theorem dX11_isTown_6 : decode cX11_isTown 6 = .ok (.getfield 153, 3) := by decide +kernel
theorem dX11_isTown_9 : decode cX11_isTown 9 = .ok (.if_icmp .ge 7, 3) := by decide +kernel
theorem dX11_isTown_12 : decode cX11_isTown 12 = .ok (.iconst 1, 1) := by decide +kernel
theorem dX11_isTown_13 : decode cX11_isTown 13 = .ok (.goto 4, 3) := by decide +kernel
theorem dX11_isTown_16 : decode cX11_isTown 16 = .ok (.iconst 0, 1) := by decide +kernel
theorem dX11_isTown_17 : decode cX11_isTown 17 = .ok (.ireturn, 1) := by decide +kernel
theorem dX11_isKind_0 : decode cX11_isKind 0 = .ok (.iload_n 0, 1) := by decide +kernel
theorem dX11_isKind_1 : decode cX11_isKind 1 = .ok (.ifCond .lt 12, 3) := by decide +kernel
theorem dX11_isKind_4 : decode cX11_isKind 4 = .ok (.iload_n 0, 1) := by decide +kernel
theorem dX11_isKind_5 : decode cX11_isKind 5 = .ok (.iconst 3, 1) := by decide +kernel
theorem dX11_isKind_6 : decode cX11_isKind 6 = .ok (.if_icmp .ge 7, 3) := by decide +kernel
theorem dX11_isKind_9 : decode cX11_isKind 9 = .ok (.iconst 1, 1) := by decide +kernel
theorem dX11_isKind_10 : decode cX11_isKind 10 = .ok (.goto 4, 3) := by decide +kernel
theorem dX11_isKind_13 : decode cX11_isKind 13 = .ok (.iconst 0, 1) := by decide +kernel
theorem dX11_isKind_14 : decode cX11_isKind 14 = .ok (.ireturn, 1) := by decide +kernel
theorem dX11_lot_0 : decode cX11_lot 0 = .ok (.iload_n 0, 1) := by decide +kernel
theorem dX11_lot_1 : decode cX11_lot 1 = .ok (.iconst 3, 1) := by decide +kernel
theorem dX11_lot_2 : decode cX11_lot 2 = .ok (.imul, 1) := by decide +kernel
theorem dX11_lot_3 : decode cX11_lot 3 = .ok (.iload_n 1, 1) := by decide +kernel
theorem dX11_lot_4 : decode cX11_lot 4 = .ok (.iadd, 1) := by decide +kernel
theorem dX11_lot_5 : decode cX11_lot 5 = .ok (.bipush 61, 2) := by decide +kernel
theorem dX11_lot_7 : decode cX11_lot 7 = .ok (.imul, 1) := by decide +kernel
theorem dX11_lot_8 : decode cX11_lot 8 = .ok (.iload_n 2, 1) := by decide +kernel
theorem dX11_lot_9 : decode cX11_lot 9 = .ok (.iadd, 1) := by decide +kernel
theorem dX11_lot_10 : decode cX11_lot 10 = .ok (.ireturn, 1) := by decide +kernel
theorem dX11_town_0 : decode cX11_town 0 = .ok (.iload_n 1, 1) := by decide +kernel
theorem dX11_town_1 : decode cX11_town 1 = .ok (.ifCond .lt 40, 3) := by decide +kernel
theorem dX11_town_4 : decode cX11_town 4 = .ok (.iload_n 1, 1) := by decide +kernel
theorem dX11_town_5 : decode cX11_town 5 = .ok (.ldc 156, 2) := by decide +kernel
theorem dX11_town_7 : decode cX11_town 7 = .ok (.if_icmp .gt 34, 3) := by decide +kernel
theorem dX11_town_10 : decode cX11_town 10 = .ok (.iload_n 2, 1) := by decide +kernel
theorem dX11_town_11 : decode cX11_town 11 = .ok (.ifCond .lt 30, 3) := by decide +kernel
theorem dX11_town_14 : decode cX11_town 14 = .ok (.iload_n 2, 1) := by decide +kernel
theorem dX11_town_15 : decode cX11_town 15 = .ok (.sipush 1000, 3) := by decide +kernel
theorem dX11_town_18 : decode cX11_town 18 = .ok (.if_icmp .gt 23, 3) := by decide +kernel
theorem dX11_town_21 : decode cX11_town 21 = .ok (.iload_n 3, 1) := by decide +kernel
theorem dX11_town_22 : decode cX11_town 22 = .ok (.ifCond .lt 19, 3) := by decide +kernel
theorem dX11_town_25 : decode cX11_town 25 = .ok (.iload_n 3, 1) := by decide +kernel
theorem dX11_town_26 : decode cX11_town 26 = .ok (.sipush 500, 3) := by decide +kernel
theorem dX11_town_29 : decode cX11_town 29 = .ok (.if_icmp .gt 12, 3) := by decide +kernel
theorem dX11_town_32 : decode cX11_town 32 = .ok (.aload_n 0, 1) := by decide +kernel
theorem dX11_town_33 : decode cX11_town 33 = .ok (.getfield 153, 3) := by decide +kernel
theorem dX11_town_36 : decode cX11_town 36 = .ok (.bipush 8, 2) := by decide +kernel
theorem dX11_town_38 : decode cX11_town 38 = .ok (.if_icmp .ne 5, 3) := by decide +kernel
theorem dX11_town_41 : decode cX11_town 41 = .ok (.iconst (-1), 1) := by decide +kernel
theorem dX11_town_42 : decode cX11_town 42 = .ok (.ireturn, 1) := by decide +kernel
theorem dX11_town_43 : decode cX11_town 43 = .ok (.aload_n 0, 1) := by decide +kernel
theorem dX11_town_44 : decode cX11_town 44 = .ok (.getfield 7, 3) := by decide +kernel
theorem dX11_town_47 : decode cX11_town 47 = .ok (.aload_n 0, 1) := by decide +kernel
theorem dX11_town_48 : decode cX11_town 48 = .ok (.getfield 153, 3) := by decide +kernel
theorem dX11_town_51 : decode cX11_town 51 = .ok (.iload_n 1, 1) := by decide +kernel
theorem dX11_town_52 : decode cX11_town 52 = .ok (.iastore, 1) := by decide +kernel
theorem dX11_town_53 : decode cX11_town 53 = .ok (.aload_n 0, 1) := by decide +kernel
theorem dX11_town_54 : decode cX11_town 54 = .ok (.getfield 13, 3) := by decide +kernel
theorem dX11_town_57 : decode cX11_town 57 = .ok (.aload_n 0, 1) := by decide +kernel
theorem dX11_town_58 : decode cX11_town 58 = .ok (.getfield 153, 3) := by decide +kernel
theorem dX11_town_61 : decode cX11_town 61 = .ok (.iload_n 2, 1) := by decide +kernel
theorem dX11_town_62 : decode cX11_town 62 = .ok (.iastore, 1) := by decide +kernel
theorem dX11_town_63 : decode cX11_town 63 = .ok (.aload_n 0, 1) := by decide +kernel
theorem dX11_town_64 : decode cX11_town 64 = .ok (.getfield 16, 3) := by decide +kernel
theorem dX11_town_67 : decode cX11_town 67 = .ok (.aload_n 0, 1) := by decide +kernel
theorem dX11_town_68 : decode cX11_town 68 = .ok (.getfield 153, 3) := by decide +kernel
theorem dX11_town_71 : decode cX11_town 71 = .ok (.iload_n 3, 1) := by decide +kernel
theorem dX11_town_72 : decode cX11_town 72 = .ok (.iastore, 1) := by decide +kernel
theorem dX11_town_73 : decode cX11_town 73 = .ok (.aload_n 0, 1) := by decide +kernel
theorem dX11_town_74 : decode cX11_town 74 = .ok (.dup, 1) := by decide +kernel
theorem dX11_town_75 : decode cX11_town 75 = .ok (.getfield 153, 3) := by decide +kernel
theorem dX11_town_78 : decode cX11_town 78 = .ok (.iconst 1, 1) := by decide +kernel
theorem dX11_town_79 : decode cX11_town 79 = .ok (.iadd, 1) := by decide +kernel
theorem dX11_town_80 : decode cX11_town 80 = .ok (.putfield 153, 3) := by decide +kernel
theorem dX11_town_83 : decode cX11_town 83 = .ok (.aload_n 0, 1) := by decide +kernel
theorem dX11_town_84 : decode cX11_town 84 = .ok (.getfield 153, 3) := by decide +kernel
theorem dX11_town_87 : decode cX11_town 87 = .ok (.iconst 1, 1) := by decide +kernel
theorem dX11_town_88 : decode cX11_town 88 = .ok (.isub, 1) := by decide +kernel
theorem dX11_town_89 : decode cX11_town 89 = .ok (.ireturn, 1) := by decide +kernel
theorem dX11_way_0 : decode cX11_way 0 = .ok (.aload_n 0, 1) := by decide +kernel
theorem dX11_way_1 : decode cX11_way 1 = .ok (.iload_n 1, 1) := by decide +kernel
theorem dX11_way_2 : decode cX11_way 2 = .ok (.invokevirtual 157, 3) := by decide +kernel
theorem dX11_way_5 : decode cX11_way 5 = .ok (.ifCond .eq 32, 3) := by decide +kernel
theorem dX11_way_8 : decode cX11_way 8 = .ok (.aload_n 0, 1) := by decide +kernel
theorem dX11_way_9 : decode cX11_way 9 = .ok (.iload_n 2, 1) := by decide +kernel
theorem dX11_way_10 : decode cX11_way 10 = .ok (.invokevirtual 157, 3) := by decide +kernel
theorem dX11_way_13 : decode cX11_way 13 = .ok (.ifCond .eq 24, 3) := by decide +kernel
theorem dX11_way_16 : decode cX11_way 16 = .ok (.iload_n 1, 1) := by decide +kernel
theorem dX11_way_17 : decode cX11_way 17 = .ok (.iload_n 2, 1) := by decide +kernel
theorem dX11_way_18 : decode cX11_way 18 = .ok (.if_icmp .eq 19, 3) := by decide +kernel
theorem dX11_way_21 : decode cX11_way 21 = .ok (.iload_n 3, 1) := by decide +kernel
theorem dX11_way_22 : decode cX11_way 22 = .ok (.ifCond .eq 15, 3) := by decide +kernel
theorem dX11_way_25 : decode cX11_way 25 = .ok (.iload_n 3, 1) := by decide +kernel
theorem dX11_way_26 : decode cX11_way 26 = .ok (.iconst (-1), 1) := by decide +kernel
theorem dX11_way_27 : decode cX11_way 27 = .ok (.if_icmp .lt 10, 3) := by decide +kernel
theorem dX11_way_30 : decode cX11_way 30 = .ok (.iload_n 3, 1) := by decide +kernel
theorem dX11_way_31 : decode cX11_way 31 = .ok (.sipush 200, 3) := by decide +kernel
theorem dX11_way_34 : decode cX11_way 34 = .ok (.if_icmp .le 5, 3) := by decide +kernel
theorem dX11_way_37 : decode cX11_way 37 = .ok (.iconst 0, 1) := by decide +kernel
theorem dX11_way_38 : decode cX11_way 38 = .ok (.ireturn, 1) := by decide +kernel
theorem dX11_way_39 : decode cX11_way 39 = .ok (.aload_n 0, 1) := by decide +kernel
theorem dX11_way_40 : decode cX11_way 40 = .ok (.getfield 19, 3) := by decide +kernel
theorem dX11_way_43 : decode cX11_way 43 = .ok (.bipush 8, 2) := by decide +kernel
theorem dX11_way_45 : decode cX11_way 45 = .ok (.iload_n 1, 1) := by decide +kernel
theorem dX11_way_46 : decode cX11_way 46 = .ok (.imul, 1) := by decide +kernel
theorem dX11_way_47 : decode cX11_way 47 = .ok (.iload_n 2, 1) := by decide +kernel
theorem dX11_way_48 : decode cX11_way 48 = .ok (.iadd, 1) := by decide +kernel
theorem dX11_way_49 : decode cX11_way 49 = .ok (.iload_n 3, 1) := by decide +kernel
theorem dX11_way_50 : decode cX11_way 50 = .ok (.iastore, 1) := by decide +kernel
theorem dX11_way_51 : decode cX11_way 51 = .ok (.aload_n 0, 1) := by decide +kernel
theorem dX11_way_52 : decode cX11_way 52 = .ok (.getfield 19, 3) := by decide +kernel
theorem dX11_way_55 : decode cX11_way 55 = .ok (.bipush 8, 2) := by decide +kernel
theorem dX11_way_57 : decode cX11_way 57 = .ok (.iload_n 2, 1) := by decide +kernel
theorem dX11_way_58 : decode cX11_way 58 = .ok (.imul, 1) := by decide +kernel
theorem dX11_way_59 : decode cX11_way 59 = .ok (.iload_n 1, 1) := by decide +kernel
theorem dX11_way_60 : decode cX11_way 60 = .ok (.iadd, 1) := by decide +kernel
theorem dX11_way_61 : decode cX11_way 61 = .ok (.iload_n 3, 1) := by decide +kernel
theorem dX11_way_62 : decode cX11_way 62 = .ok (.iastore, 1) := by decide +kernel
theorem dX11_way_63 : decode cX11_way 63 = .ok (.iconst 1, 1) := by decide +kernel
theorem dX11_way_64 : decode cX11_way 64 = .ok (.ireturn, 1) := by decide +kernel
theorem dX11_keeps_0 : decode cX11_keeps 0 = .ok (.iload_n 1, 1) := by decide +kernel
theorem dX11_keeps_1 : decode cX11_keeps 1 = .ok (.invokestatic 161, 3) := by decide +kernel
theorem dX11_keeps_4 : decode cX11_keeps 4 = .ok (.ifCond .eq 14, 3) := by decide +kernel
theorem dX11_keeps_7 : decode cX11_keeps 7 = .ok (.iload_n 2, 1) := by decide +kernel
theorem dX11_keeps_8 : decode cX11_keeps 8 = .ok (.iconst 1, 1) := by decide +kernel
theorem dX11_keeps_9 : decode cX11_keeps 9 = .ok (.if_icmp .lt 9, 3) := by decide +kernel
theorem dX11_keeps_12 : decode cX11_keeps 12 = .ok (.iload_n 2, 1) := by decide +kernel
theorem dX11_keeps_13 : decode cX11_keeps 13 = .ok (.bipush 60, 2) := by decide +kernel
theorem dX11_keeps_15 : decode cX11_keeps 15 = .ok (.if_icmp .le 5, 3) := by decide +kernel
theorem dX11_keeps_18 : decode cX11_keeps 18 = .ok (.iconst 0, 1) := by decide +kernel
theorem dX11_keeps_19 : decode cX11_keeps 19 = .ok (.ireturn, 1) := by decide +kernel
theorem dX11_keeps_20 : decode cX11_keeps 20 = .ok (.aload_n 0, 1) := by decide +kernel
theorem dX11_keeps_21 : decode cX11_keeps 21 = .ok (.getfield 22, 3) := by decide +kernel
theorem dX11_keeps_24 : decode cX11_keeps 24 = .ok (.iload_n 1, 1) := by decide +kernel
theorem dX11_keeps_25 : decode cX11_keeps 25 = .ok (.iload_n 2, 1) := by decide +kernel
theorem dX11_keeps_26 : decode cX11_keeps 26 = .ok (.iastore, 1) := by decide +kernel
theorem dX11_keeps_27 : decode cX11_keeps 27 = .ok (.iconst 1, 1) := by decide +kernel
theorem dX11_keeps_28 : decode cX11_keeps 28 = .ok (.ireturn, 1) := by decide +kernel
theorem dX11_inStore_0 : decode cX11_inStore 0 = .ok (.iconst 0, 1) := by decide +kernel
theorem dX11_inStore_1 : decode cX11_inStore 1 = .ok (.istore_n 2, 1) := by decide +kernel
theorem dX11_inStore_2 : decode cX11_inStore 2 = .ok (.iload_n 1, 1) := by decide +kernel
theorem dX11_inStore_3 : decode cX11_inStore 3 = .ok (.iconst 0, 1) := by decide +kernel
theorem dX11_inStore_4 : decode cX11_inStore 4 = .ok (.iconst 0, 1) := by decide +kernel
theorem dX11_inStore_5 : decode cX11_inStore 5 = .ok (.invokestatic 164, 3) := by decide +kernel
theorem dX11_inStore_8 : decode cX11_inStore 8 = .ok (.istore_n 3, 1) := by decide +kernel
theorem dX11_inStore_9 : decode cX11_inStore 9 = .ok (.iload_n 3, 1) := by decide +kernel
theorem dX11_inStore_10 : decode cX11_inStore 10 = .ok (.iload_n 1, 1) := by decide +kernel
theorem dX11_inStore_11 : decode cX11_inStore 11 = .ok (.iconst 1, 1) := by decide +kernel
theorem dX11_inStore_12 : decode cX11_inStore 12 = .ok (.iadd, 1) := by decide +kernel
theorem dX11_inStore_13 : decode cX11_inStore 13 = .ok (.iconst 0, 1) := by decide +kernel
theorem dX11_inStore_14 : decode cX11_inStore 14 = .ok (.iconst 0, 1) := by decide +kernel
theorem dX11_inStore_15 : decode cX11_inStore 15 = .ok (.invokestatic 164, 3) := by decide +kernel
theorem dX11_inStore_18 : decode cX11_inStore 18 = .ok (.if_icmp .ge 18, 3) := by decide +kernel
theorem dX11_inStore_21 : decode cX11_inStore 21 = .ok (.iload_n 2, 1) := by decide +kernel
theorem dX11_inStore_22 : decode cX11_inStore 22 = .ok (.aload_n 0, 1) := by decide +kernel
theorem dX11_inStore_23 : decode cX11_inStore 23 = .ok (.getfield 25, 3) := by decide +kernel
theorem dX11_inStore_26 : decode cX11_inStore 26 = .ok (.iload_n 3, 1) := by decide +kernel
theorem dX11_inStore_27 : decode cX11_inStore 27 = .ok (.iaload, 1) := by decide +kernel
theorem dX11_inStore_28 : decode cX11_inStore 28 = .ok (.iadd, 1) := by decide +kernel
theorem dX11_inStore_29 : decode cX11_inStore 29 = .ok (.istore_n 2, 1) := by decide +kernel
theorem dX11_inStore_30 : decode cX11_inStore 30 = .ok (.iinc 3 1, 3) := by decide +kernel
theorem dX11_inStore_33 : decode cX11_inStore 33 = .ok (.goto (-24), 3) := by decide +kernel
theorem dX11_inStore_36 : decode cX11_inStore 36 = .ok (.iload_n 2, 1) := by decide +kernel
theorem dX11_inStore_37 : decode cX11_inStore 37 = .ok (.ireturn, 1) := by decide +kernel
theorem dX11_space_0 : decode cX11_space 0 = .ok (.aload_n 0, 1) := by decide +kernel
theorem dX11_space_1 : decode cX11_space 1 = .ok (.getfield 7, 3) := by decide +kernel
theorem dX11_space_4 : decode cX11_space 4 = .ok (.iload_n 1, 1) := by decide +kernel
theorem dX11_space_5 : decode cX11_space 5 = .ok (.iaload, 1) := by decide +kernel
theorem dX11_space_6 : decode cX11_space 6 = .ok (.aload_n 0, 1) := by decide +kernel
theorem dX11_space_7 : decode cX11_space 7 = .ok (.iload_n 1, 1) := by decide +kernel
theorem dX11_space_8 : decode cX11_space 8 = .ok (.invokevirtual 168, 3) := by decide +kernel
theorem dX11_space_11 : decode cX11_space 11 = .ok (.isub, 1) := by decide +kernel
theorem dX11_space_12 : decode cX11_space 12 = .ok (.ireturn, 1) := by decide +kernel
theorem dX11_comeIn_0 : decode cX11_comeIn 0 = .ok (.iload 4, 2) := by decide +kernel
theorem dX11_comeIn_2 : decode cX11_comeIn 2 = .ok (.aload_n 0, 1) := by decide +kernel
theorem dX11_comeIn_3 : decode cX11_comeIn 3 = .ok (.iload_n 1, 1) := by decide +kernel
theorem dX11_comeIn_4 : decode cX11_comeIn 4 = .ok (.invokevirtual 172, 3) := by decide +kernel
theorem dX11_comeIn_7 : decode cX11_comeIn 7 = .ok (.if_icmp .ge 8, 3) := by decide +kernel
theorem dX11_comeIn_10 : decode cX11_comeIn 10 = .ok (.iload 4, 2) := by decide +kernel
theorem dX11_comeIn_12 : decode cX11_comeIn 12 = .ok (.goto 8, 3) := by decide +kernel
theorem dX11_comeIn_15 : decode cX11_comeIn 15 = .ok (.aload_n 0, 1) := by decide +kernel
theorem dX11_comeIn_16 : decode cX11_comeIn 16 = .ok (.iload_n 1, 1) := by decide +kernel
theorem dX11_comeIn_17 : decode cX11_comeIn 17 = .ok (.invokevirtual 172, 3) := by decide +kernel
theorem dX11_comeIn_20 : decode cX11_comeIn 20 = .ok (.istore 5, 2) := by decide +kernel
theorem dX11_comeIn_22 : decode cX11_comeIn 22 = .ok (.aload_n 0, 1) := by decide +kernel
theorem dX11_comeIn_23 : decode cX11_comeIn 23 = .ok (.getfield 25, 3) := by decide +kernel
theorem dX11_comeIn_26 : decode cX11_comeIn 26 = .ok (.iload_n 1, 1) := by decide +kernel
theorem dX11_comeIn_27 : decode cX11_comeIn 27 = .ok (.iload_n 2, 1) := by decide +kernel
theorem dX11_comeIn_28 : decode cX11_comeIn 28 = .ok (.iload_n 3, 1) := by decide +kernel
theorem dX11_comeIn_29 : decode cX11_comeIn 29 = .ok (.invokestatic 164, 3) := by decide +kernel
theorem dX11_comeIn_32 : decode cX11_comeIn 32 = .ok (.dup2, 1) := by decide +kernel
theorem dX11_comeIn_33 : decode cX11_comeIn 33 = .ok (.iaload, 1) := by decide +kernel
theorem dX11_comeIn_34 : decode cX11_comeIn 34 = .ok (.iload 5, 2) := by decide +kernel
theorem dX11_comeIn_36 : decode cX11_comeIn 36 = .ok (.iadd, 1) := by decide +kernel
theorem dX11_comeIn_37 : decode cX11_comeIn 37 = .ok (.iastore, 1) := by decide +kernel
theorem dX11_comeIn_38 : decode cX11_comeIn 38 = .ok (.aload_n 0, 1) := by decide +kernel
theorem dX11_comeIn_39 : decode cX11_comeIn 39 = .ok (.getfield 28, 3) := by decide +kernel
theorem dX11_comeIn_42 : decode cX11_comeIn 42 = .ok (.iconst 2, 1) := by decide +kernel
theorem dX11_comeIn_43 : decode cX11_comeIn 43 = .ok (.dup2, 1) := by decide +kernel
theorem dX11_comeIn_44 : decode cX11_comeIn 44 = .ok (.iaload, 1) := by decide +kernel
theorem dX11_comeIn_45 : decode cX11_comeIn 45 = .ok (.iload 4, 2) := by decide +kernel
theorem dX11_comeIn_47 : decode cX11_comeIn 47 = .ok (.iload 5, 2) := by decide +kernel
theorem dX11_comeIn_49 : decode cX11_comeIn 49 = .ok (.isub, 1) := by decide +kernel
theorem dX11_comeIn_50 : decode cX11_comeIn 50 = .ok (.iadd, 1) := by decide +kernel
theorem dX11_comeIn_51 : decode cX11_comeIn 51 = .ok (.iastore, 1) := by decide +kernel
theorem dX11_comeIn_52 : decode cX11_comeIn 52 = .ok (.iload 5, 2) := by decide +kernel
theorem dX11_comeIn_54 : decode cX11_comeIn 54 = .ok (.ireturn, 1) := by decide +kernel
theorem dX11_areMeasures_0 : decode cX11_areMeasures 0 = .ok (.iload_n 0, 1) := by decide +kernel
theorem dX11_areMeasures_1 : decode cX11_areMeasures 1 = .ok (.iconst 1, 1) := by decide +kernel
theorem dX11_areMeasures_2 : decode cX11_areMeasures 2 = .ok (.if_icmp .lt 13, 3) := by decide +kernel
theorem dX11_areMeasures_5 : decode cX11_areMeasures 5 = .ok (.iload_n 0, 1) := by decide +kernel
theorem dX11_areMeasures_6 : decode cX11_areMeasures 6 = .ok (.ldc 156, 2) := by decide +kernel
theorem dX11_areMeasures_8 : decode cX11_areMeasures 8 = .ok (.if_icmp .gt 7, 3) := by decide +kernel
theorem dX11_areMeasures_11 : decode cX11_areMeasures 11 = .ok (.iconst 1, 1) := by decide +kernel
theorem dX11_areMeasures_12 : decode cX11_areMeasures 12 = .ok (.goto 4, 3) := by decide +kernel
theorem dX11_areMeasures_15 : decode cX11_areMeasures 15 = .ok (.iconst 0, 1) := by decide +kernel
theorem dX11_areMeasures_16 : decode cX11_areMeasures 16 = .ok (.ireturn, 1) := by decide +kernel
theorem dX11_put_0 : decode cX11_put 0 = .ok (.aload_n 0, 1) := by decide +kernel
theorem dX11_put_1 : decode cX11_put 1 = .ok (.iload_n 1, 1) := by decide +kernel
theorem dX11_put_2 : decode cX11_put 2 = .ok (.invokevirtual 157, 3) := by decide +kernel
theorem dX11_put_5 : decode cX11_put 5 = .ok (.ifCond .eq 28, 3) := by decide +kernel
theorem dX11_put_8 : decode cX11_put 8 = .ok (.iload_n 2, 1) := by decide +kernel
theorem dX11_put_9 : decode cX11_put 9 = .ok (.invokestatic 161, 3) := by decide +kernel
theorem dX11_put_12 : decode cX11_put 12 = .ok (.ifCond .eq 21, 3) := by decide +kernel
theorem dX11_put_15 : decode cX11_put 15 = .ok (.iload_n 3, 1) := by decide +kernel
theorem dX11_put_16 : decode cX11_put 16 = .ok (.ifCond .lt 17, 3) := by decide +kernel
theorem dX11_put_19 : decode cX11_put 19 = .ok (.iload_n 3, 1) := by decide +kernel
theorem dX11_put_20 : decode cX11_put 20 = .ok (.bipush 61, 2) := by decide +kernel
theorem dX11_put_22 : decode cX11_put 22 = .ok (.if_icmp .ge 11, 3) := by decide +kernel
theorem dX11_put_25 : decode cX11_put 25 = .ok (.iload 4, 2) := by decide +kernel
theorem dX11_put_27 : decode cX11_put 27 = .ok (.invokestatic 175, 3) := by decide +kernel
theorem dX11_put_30 : decode cX11_put 30 = .ok (.ifCond .ne 7, 3) := by decide +kernel
theorem dX11_put_33 : decode cX11_put 33 = .ok (.iconst (-1), 1) := by decide +kernel
theorem dX11_put_34 : decode cX11_put 34 = .ok (.goto 12, 3) := by decide +kernel
theorem dX11_put_37 : decode cX11_put 37 = .ok (.aload_n 0, 1) := by decide +kernel
theorem dX11_put_38 : decode cX11_put 38 = .ok (.iload_n 1, 1) := by decide +kernel
theorem dX11_put_39 : decode cX11_put 39 = .ok (.iload_n 2, 1) := by decide +kernel
theorem dX11_put_40 : decode cX11_put 40 = .ok (.iload_n 3, 1) := by decide +kernel
theorem dX11_put_41 : decode cX11_put 41 = .ok (.iload 4, 2) := by decide +kernel
theorem dX11_put_43 : decode cX11_put 43 = .ok (.invokevirtual 178, 3) := by decide +kernel
theorem dX11_put_46 : decode cX11_put 46 = .ok (.ireturn, 1) := by decide +kernel
theorem dX11_goOut_0 : decode cX11_goOut 0 = .ok (.iload_n 3, 1) := by decide +kernel
theorem dX11_goOut_1 : decode cX11_goOut 1 = .ok (.istore 4, 2) := by decide +kernel
theorem dX11_goOut_3 : decode cX11_goOut 3 = .ok (.bipush 60, 2) := by decide +kernel
theorem dX11_goOut_5 : decode cX11_goOut 5 = .ok (.istore 5, 2) := by decide +kernel
theorem dX11_goOut_7 : decode cX11_goOut 7 = .ok (.iload 5, 2) := by decide +kernel
theorem dX11_goOut_9 : decode cX11_goOut 9 = .ok (.ifCond .lt 63, 3) := by decide +kernel
theorem dX11_goOut_12 : decode cX11_goOut 12 = .ok (.iload_n 1, 1) := by decide +kernel
theorem dX11_goOut_13 : decode cX11_goOut 13 = .ok (.iload_n 2, 1) := by decide +kernel
theorem dX11_goOut_14 : decode cX11_goOut 14 = .ok (.iload 5, 2) := by decide +kernel
theorem dX11_goOut_16 : decode cX11_goOut 16 = .ok (.invokestatic 164, 3) := by decide +kernel
theorem dX11_goOut_19 : decode cX11_goOut 19 = .ok (.istore 6, 2) := by decide +kernel
theorem dX11_goOut_21 : decode cX11_goOut 21 = .ok (.iload 4, 2) := by decide +kernel
theorem dX11_goOut_23 : decode cX11_goOut 23 = .ok (.aload_n 0, 1) := by decide +kernel
theorem dX11_goOut_24 : decode cX11_goOut 24 = .ok (.getfield 25, 3) := by decide +kernel
theorem dX11_goOut_27 : decode cX11_goOut 27 = .ok (.iload 6, 2) := by decide +kernel
theorem dX11_goOut_29 : decode cX11_goOut 29 = .ok (.iaload, 1) := by decide +kernel
theorem dX11_goOut_30 : decode cX11_goOut 30 = .ok (.if_icmp .ge 8, 3) := by decide +kernel
theorem dX11_goOut_33 : decode cX11_goOut 33 = .ok (.iload 4, 2) := by decide +kernel
theorem dX11_goOut_35 : decode cX11_goOut 35 = .ok (.goto 10, 3) := by decide +kernel
theorem dX11_goOut_38 : decode cX11_goOut 38 = .ok (.aload_n 0, 1) := by decide +kernel
theorem dX11_goOut_39 : decode cX11_goOut 39 = .ok (.getfield 25, 3) := by decide +kernel
theorem dX11_goOut_42 : decode cX11_goOut 42 = .ok (.iload 6, 2) := by decide +kernel
theorem dX11_goOut_44 : decode cX11_goOut 44 = .ok (.iaload, 1) := by decide +kernel
theorem dX11_goOut_45 : decode cX11_goOut 45 = .ok (.istore 7, 2) := by decide +kernel
theorem dX11_goOut_47 : decode cX11_goOut 47 = .ok (.aload_n 0, 1) := by decide +kernel
theorem dX11_goOut_48 : decode cX11_goOut 48 = .ok (.getfield 25, 3) := by decide +kernel
theorem dX11_goOut_51 : decode cX11_goOut 51 = .ok (.iload 6, 2) := by decide +kernel
theorem dX11_goOut_53 : decode cX11_goOut 53 = .ok (.dup2, 1) := by decide +kernel
theorem dX11_goOut_54 : decode cX11_goOut 54 = .ok (.iaload, 1) := by decide +kernel
theorem dX11_goOut_55 : decode cX11_goOut 55 = .ok (.iload 7, 2) := by decide +kernel
theorem dX11_goOut_57 : decode cX11_goOut 57 = .ok (.isub, 1) := by decide +kernel
theorem dX11_goOut_58 : decode cX11_goOut 58 = .ok (.iastore, 1) := by decide +kernel
theorem dX11_goOut_59 : decode cX11_goOut 59 = .ok (.iload 4, 2) := by decide +kernel
theorem dX11_goOut_61 : decode cX11_goOut 61 = .ok (.iload 7, 2) := by decide +kernel
theorem dX11_goOut_63 : decode cX11_goOut 63 = .ok (.isub, 1) := by decide +kernel
theorem dX11_goOut_64 : decode cX11_goOut 64 = .ok (.istore 4, 2) := by decide +kernel
theorem dX11_goOut_66 : decode cX11_goOut 66 = .ok (.iinc 5 (-1), 3) := by decide +kernel
theorem dX11_goOut_69 : decode cX11_goOut 69 = .ok (.goto (-62), 3) := by decide +kernel
theorem dX11_goOut_72 : decode cX11_goOut 72 = .ok (.iload_n 3, 1) := by decide +kernel
theorem dX11_goOut_73 : decode cX11_goOut 73 = .ok (.iload 4, 2) := by decide +kernel
theorem dX11_goOut_75 : decode cX11_goOut 75 = .ok (.isub, 1) := by decide +kernel
theorem dX11_goOut_76 : decode cX11_goOut 76 = .ok (.ireturn, 1) := by decide +kernel
theorem dX11_take_0 : decode cX11_take 0 = .ok (.aload_n 0, 1) := by decide +kernel
theorem dX11_take_1 : decode cX11_take 1 = .ok (.iload_n 1, 1) := by decide +kernel
theorem dX11_take_2 : decode cX11_take 2 = .ok (.invokevirtual 157, 3) := by decide +kernel
theorem dX11_take_5 : decode cX11_take 5 = .ok (.ifCond .eq 17, 3) := by decide +kernel
theorem dX11_take_8 : decode cX11_take 8 = .ok (.iload_n 2, 1) := by decide +kernel
theorem dX11_take_9 : decode cX11_take 9 = .ok (.invokestatic 161, 3) := by decide +kernel
theorem dX11_take_12 : decode cX11_take 12 = .ok (.ifCond .eq 10, 3) := by decide +kernel
theorem dX11_take_15 : decode cX11_take 15 = .ok (.iload_n 3, 1) := by decide +kernel
theorem dX11_take_16 : decode cX11_take 16 = .ok (.invokestatic 175, 3) := by decide +kernel
theorem dX11_take_19 : decode cX11_take 19 = .ok (.ifCond .ne 7, 3) := by decide +kernel
theorem dX11_take_22 : decode cX11_take 22 = .ok (.iconst (-1), 1) := by decide +kernel
theorem dX11_take_23 : decode cX11_take 23 = .ok (.goto 10, 3) := by decide +kernel
theorem dX11_take_26 : decode cX11_take 26 = .ok (.aload_n 0, 1) := by decide +kernel
theorem dX11_take_27 : decode cX11_take 27 = .ok (.iload_n 1, 1) := by decide +kernel
theorem dX11_take_28 : decode cX11_take 28 = .ok (.iload_n 2, 1) := by decide +kernel
theorem dX11_take_29 : decode cX11_take 29 = .ok (.iload_n 3, 1) := by decide +kernel
theorem dX11_take_30 : decode cX11_take 30 = .ok (.invokevirtual 182, 3) := by decide +kernel
theorem dX11_take_33 : decode cX11_take 33 = .ok (.ireturn, 1) := by decide +kernel
theorem dX11_stockOf_0 : decode cX11_stockOf 0 = .ok (.iconst 0, 1) := by decide +kernel
theorem dX11_stockOf_1 : decode cX11_stockOf 1 = .ok (.istore_n 3, 1) := by decide +kernel
theorem dX11_stockOf_2 : decode cX11_stockOf 2 = .ok (.iconst 0, 1) := by decide +kernel
theorem dX11_stockOf_3 : decode cX11_stockOf 3 = .ok (.istore 4, 2) := by decide +kernel
theorem dX11_stockOf_5 : decode cX11_stockOf 5 = .ok (.iload 4, 2) := by decide +kernel
theorem dX11_stockOf_7 : decode cX11_stockOf 7 = .ok (.bipush 61, 2) := by decide +kernel
theorem dX11_stockOf_9 : decode cX11_stockOf 9 = .ok (.if_icmp .ge 24, 3) := by decide +kernel
theorem dX11_stockOf_12 : decode cX11_stockOf 12 = .ok (.iload_n 3, 1) := by decide +kernel
theorem dX11_stockOf_13 : decode cX11_stockOf 13 = .ok (.aload_n 0, 1) := by decide +kernel
theorem dX11_stockOf_14 : decode cX11_stockOf 14 = .ok (.getfield 25, 3) := by decide +kernel
theorem dX11_stockOf_17 : decode cX11_stockOf 17 = .ok (.iload_n 1, 1) := by decide +kernel
theorem dX11_stockOf_18 : decode cX11_stockOf 18 = .ok (.iload_n 2, 1) := by decide +kernel
theorem dX11_stockOf_19 : decode cX11_stockOf 19 = .ok (.iload 4, 2) := by decide +kernel
theorem dX11_stockOf_21 : decode cX11_stockOf 21 = .ok (.invokestatic 164, 3) := by decide +kernel
theorem dX11_stockOf_24 : decode cX11_stockOf 24 = .ok (.iaload, 1) := by decide +kernel
theorem dX11_stockOf_25 : decode cX11_stockOf 25 = .ok (.iadd, 1) := by decide +kernel
theorem dX11_stockOf_26 : decode cX11_stockOf 26 = .ok (.istore_n 3, 1) := by decide +kernel
theorem dX11_stockOf_27 : decode cX11_stockOf 27 = .ok (.iinc 4 1, 3) := by decide +kernel
theorem dX11_stockOf_30 : decode cX11_stockOf 30 = .ok (.goto (-25), 3) := by decide +kernel
theorem dX11_stockOf_33 : decode cX11_stockOf 33 = .ok (.iload_n 3, 1) := by decide +kernel
theorem dX11_stockOf_34 : decode cX11_stockOf 34 = .ok (.ireturn, 1) := by decide +kernel
theorem dX11_stock_0 : decode cX11_stock 0 = .ok (.aload_n 0, 1) := by decide +kernel
theorem dX11_stock_1 : decode cX11_stock 1 = .ok (.iload_n 1, 1) := by decide +kernel
theorem dX11_stock_2 : decode cX11_stock 2 = .ok (.invokevirtual 157, 3) := by decide +kernel
theorem dX11_stock_5 : decode cX11_stock 5 = .ok (.ifCond .eq 21, 3) := by decide +kernel
theorem dX11_stock_8 : decode cX11_stock 8 = .ok (.iload_n 2, 1) := by decide +kernel
theorem dX11_stock_9 : decode cX11_stock 9 = .ok (.invokestatic 161, 3) := by decide +kernel
theorem dX11_stock_12 : decode cX11_stock 12 = .ok (.ifCond .eq 14, 3) := by decide +kernel
theorem dX11_stock_15 : decode cX11_stock 15 = .ok (.iload_n 3, 1) := by decide +kernel
theorem dX11_stock_16 : decode cX11_stock 16 = .ok (.iconst (-1), 1) := by decide +kernel
theorem dX11_stock_17 : decode cX11_stock 17 = .ok (.if_icmp .lt 9, 3) := by decide +kernel
theorem dX11_stock_20 : decode cX11_stock 20 = .ok (.iload_n 3, 1) := by decide +kernel
theorem dX11_stock_21 : decode cX11_stock 21 = .ok (.bipush 61, 2) := by decide +kernel
theorem dX11_stock_23 : decode cX11_stock 23 = .ok (.if_icmp .lt 5, 3) := by decide +kernel
theorem dX11_stock_26 : decode cX11_stock 26 = .ok (.iconst (-1), 1) := by decide +kernel
theorem dX11_stock_27 : decode cX11_stock 27 = .ok (.ireturn, 1) := by decide +kernel
theorem dX11_stock_28 : decode cX11_stock 28 = .ok (.iload_n 3, 1) := by decide +kernel
theorem dX11_stock_29 : decode cX11_stock 29 = .ok (.iconst (-1), 1) := by decide +kernel
theorem dX11_stock_30 : decode cX11_stock 30 = .ok (.if_icmp .ne 12, 3) := by decide +kernel
theorem dX11_stock_33 : decode cX11_stock 33 = .ok (.aload_n 0, 1) := by decide +kernel
theorem dX11_stock_34 : decode cX11_stock 34 = .ok (.iload_n 1, 1) := by decide +kernel
theorem dX11_stock_35 : decode cX11_stock 35 = .ok (.iload_n 2, 1) := by decide +kernel
theorem dX11_stock_36 : decode cX11_stock 36 = .ok (.invokevirtual 185, 3) := by decide +kernel
theorem dX11_stock_39 : decode cX11_stock 39 = .ok (.goto 14, 3) := by decide +kernel
theorem dX11_stock_42 : decode cX11_stock 42 = .ok (.aload_n 0, 1) := by decide +kernel
theorem dX11_stock_43 : decode cX11_stock 43 = .ok (.getfield 25, 3) := by decide +kernel
theorem dX11_stock_46 : decode cX11_stock 46 = .ok (.iload_n 1, 1) := by decide +kernel
theorem dX11_stock_47 : decode cX11_stock 47 = .ok (.iload_n 2, 1) := by decide +kernel
theorem dX11_stock_48 : decode cX11_stock 48 = .ok (.iload_n 3, 1) := by decide +kernel
theorem dX11_stock_49 : decode cX11_stock 49 = .ok (.invokestatic 164, 3) := by decide +kernel
theorem dX11_stock_52 : decode cX11_stock 52 = .ok (.iaload, 1) := by decide +kernel
theorem dX11_stock_53 : decode cX11_stock 53 = .ok (.ireturn, 1) := by decide +kernel
theorem dX11_oldOf_0 : decode cX11_oldOf 0 = .ok (.bipush 60, 2) := by decide +kernel
theorem dX11_oldOf_2 : decode cX11_oldOf 2 = .ok (.istore_n 3, 1) := by decide +kernel
theorem dX11_oldOf_3 : decode cX11_oldOf 3 = .ok (.iload_n 3, 1) := by decide +kernel
theorem dX11_oldOf_4 : decode cX11_oldOf 4 = .ok (.ifCond .le 23, 3) := by decide +kernel
theorem dX11_oldOf_7 : decode cX11_oldOf 7 = .ok (.aload_n 0, 1) := by decide +kernel
theorem dX11_oldOf_8 : decode cX11_oldOf 8 = .ok (.getfield 25, 3) := by decide +kernel
theorem dX11_oldOf_11 : decode cX11_oldOf 11 = .ok (.iload_n 1, 1) := by decide +kernel
theorem dX11_oldOf_12 : decode cX11_oldOf 12 = .ok (.iload_n 2, 1) := by decide +kernel
theorem dX11_oldOf_13 : decode cX11_oldOf 13 = .ok (.iload_n 3, 1) := by decide +kernel
theorem dX11_oldOf_14 : decode cX11_oldOf 14 = .ok (.invokestatic 164, 3) := by decide +kernel
theorem dX11_oldOf_17 : decode cX11_oldOf 17 = .ok (.iaload, 1) := by decide +kernel
theorem dX11_oldOf_18 : decode cX11_oldOf 18 = .ok (.ifCond .ne 9, 3) := by decide +kernel
theorem dX11_oldOf_21 : decode cX11_oldOf 21 = .ok (.iinc 3 (-1), 3) := by decide +kernel
theorem dX11_oldOf_24 : decode cX11_oldOf 24 = .ok (.goto (-21), 3) := by decide +kernel
theorem dX11_oldOf_27 : decode cX11_oldOf 27 = .ok (.aload_n 0, 1) := by decide +kernel
theorem dX11_oldOf_28 : decode cX11_oldOf 28 = .ok (.getfield 25, 3) := by decide +kernel
theorem dX11_oldOf_31 : decode cX11_oldOf 31 = .ok (.iload_n 1, 1) := by decide +kernel
theorem dX11_oldOf_32 : decode cX11_oldOf 32 = .ok (.iload_n 2, 1) := by decide +kernel
theorem dX11_oldOf_33 : decode cX11_oldOf 33 = .ok (.iload_n 3, 1) := by decide +kernel
theorem dX11_oldOf_34 : decode cX11_oldOf 34 = .ok (.invokestatic 164, 3) := by decide +kernel
theorem dX11_oldOf_37 : decode cX11_oldOf 37 = .ok (.iaload, 1) := by decide +kernel
theorem dX11_oldOf_38 : decode cX11_oldOf 38 = .ok (.ireturn, 1) := by decide +kernel
theorem dX11_sign_0 : decode cX11_sign 0 = .ok (.iload_n 1, 1) := by decide +kernel
theorem dX11_sign_1 : decode cX11_sign 1 = .ok (.aload_n 0, 1) := by decide +kernel
theorem dX11_sign_2 : decode cX11_sign 2 = .ok (.getfield 189, 3) := by decide +kernel
theorem dX11_sign_5 : decode cX11_sign 5 = .ok (.if_icmp .ge 16, 3) := by decide +kernel
theorem dX11_sign_8 : decode cX11_sign 8 = .ok (.aload_n 0, 1) := by decide +kernel
theorem dX11_sign_9 : decode cX11_sign 9 = .ok (.getfield 35, 3) := by decide +kernel
theorem dX11_sign_12 : decode cX11_sign 12 = .ok (.iload_n 1, 1) := by decide +kernel
theorem dX11_sign_13 : decode cX11_sign 13 = .ok (.baload, 1) := by decide +kernel
theorem dX11_sign_14 : decode cX11_sign 14 = .ok (.sipush 255, 3) := by decide +kernel
theorem dX11_sign_17 : decode cX11_sign 17 = .ok (.iand, 1) := by decide +kernel
theorem dX11_sign_18 : decode cX11_sign 18 = .ok (.goto 4, 3) := by decide +kernel
theorem dX11_sign_21 : decode cX11_sign 21 = .ok (.iconst 0, 1) := by decide +kernel
theorem dX11_sign_22 : decode cX11_sign 22 = .ok (.ireturn, 1) := by decide +kernel
theorem dX11_isLetter_0 : decode cX11_isLetter 0 = .ok (.iload_n 0, 1) := by decide +kernel
theorem dX11_isLetter_1 : decode cX11_isLetter 1 = .ok (.bipush 97, 2) := by decide +kernel
theorem dX11_isLetter_3 : decode cX11_isLetter 3 = .ok (.if_icmp .lt 13, 3) := by decide +kernel
theorem dX11_isLetter_6 : decode cX11_isLetter 6 = .ok (.iload_n 0, 1) := by decide +kernel
theorem dX11_isLetter_7 : decode cX11_isLetter 7 = .ok (.bipush 122, 2) := by decide +kernel
theorem dX11_isLetter_9 : decode cX11_isLetter 9 = .ok (.if_icmp .gt 7, 3) := by decide +kernel
theorem dX11_isLetter_12 : decode cX11_isLetter 12 = .ok (.iconst 1, 1) := by decide +kernel
theorem dX11_isLetter_13 : decode cX11_isLetter 13 = .ok (.goto 4, 3) := by decide +kernel
theorem dX11_isLetter_16 : decode cX11_isLetter 16 = .ok (.iconst 0, 1) := by decide +kernel
theorem dX11_isLetter_17 : decode cX11_isLetter 17 = .ok (.ireturn, 1) := by decide +kernel
theorem dX11_isDigit_0 : decode cX11_isDigit 0 = .ok (.iload_n 0, 1) := by decide +kernel
theorem dX11_isDigit_1 : decode cX11_isDigit 1 = .ok (.bipush 48, 2) := by decide +kernel
theorem dX11_isDigit_3 : decode cX11_isDigit 3 = .ok (.if_icmp .lt 13, 3) := by decide +kernel
theorem dX11_isDigit_6 : decode cX11_isDigit 6 = .ok (.iload_n 0, 1) := by decide +kernel
theorem dX11_isDigit_7 : decode cX11_isDigit 7 = .ok (.bipush 57, 2) := by decide +kernel
theorem dX11_isDigit_9 : decode cX11_isDigit 9 = .ok (.if_icmp .gt 7, 3) := by decide +kernel
theorem dX11_isDigit_12 : decode cX11_isDigit 12 = .ok (.iconst 1, 1) := by decide +kernel
theorem dX11_isDigit_13 : decode cX11_isDigit 13 = .ok (.goto 4, 3) := by decide +kernel
theorem dX11_isDigit_16 : decode cX11_isDigit 16 = .ok (.iconst 0, 1) := by decide +kernel
theorem dX11_isDigit_17 : decode cX11_isDigit 17 = .ok (.ireturn, 1) := by decide +kernel
theorem dX11_fails_0 : decode cX11_fails 0 = .ok (.aload_n 0, 1) := by decide +kernel
theorem dX11_fails_1 : decode cX11_fails 1 = .ok (.getfield 192, 3) := by decide +kernel
theorem dX11_fails_4 : decode cX11_fails 4 = .ok (.ifCond .le 4, 3) := by decide +kernel
theorem dX11_fails_7 : decode cX11_fails 7 = .ok (.return_, 1) := by decide +kernel
theorem dX11_fails_8 : decode cX11_fails 8 = .ok (.aload_n 0, 1) := by decide +kernel
theorem dX11_fails_9 : decode cX11_fails 9 = .ok (.iload_n 1, 1) := by decide +kernel
theorem dX11_fails_10 : decode cX11_fails 10 = .ok (.putfield 192, 3) := by decide +kernel
theorem dX11_fails_13 : decode cX11_fails 13 = .ok (.aload_n 0, 1) := by decide +kernel
theorem dX11_fails_14 : decode cX11_fails 14 = .ok (.iload_n 2, 1) := by decide +kernel
theorem dX11_fails_15 : decode cX11_fails 15 = .ok (.putfield 38, 3) := by decide +kernel
theorem dX11_fails_18 : decode cX11_fails 18 = .ok (.return_, 1) := by decide +kernel
theorem dX11_isGood_0 : decode cX11_isGood 0 = .ok (.aload_n 0, 1) := by decide +kernel
theorem dX11_isGood_1 : decode cX11_isGood 1 = .ok (.getfield 192, 3) := by decide +kernel
theorem dX11_isGood_4 : decode cX11_isGood 4 = .ok (.ifCond .ne 7, 3) := by decide +kernel
theorem dX11_isGood_7 : decode cX11_isGood 7 = .ok (.iconst 1, 1) := by decide +kernel
theorem dX11_isGood_8 : decode cX11_isGood 8 = .ok (.goto 4, 3) := by decide +kernel
theorem dX11_isGood_11 : decode cX11_isGood 11 = .ok (.iconst 0, 1) := by decide +kernel
theorem dX11_isGood_12 : decode cX11_isGood 12 = .ok (.ireturn, 1) := by decide +kernel
theorem dX11_next_0 : decode cX11_next 0 = .ok (.aload_n 0, 1) := by decide +kernel
theorem dX11_next_1 : decode cX11_next 1 = .ok (.aload_n 0, 1) := by decide +kernel
theorem dX11_next_2 : decode cX11_next 2 = .ok (.getfield 195, 3) := by decide +kernel
theorem dX11_next_5 : decode cX11_next 5 = .ok (.putfield 198, 3) := by decide +kernel
theorem dX11_next_8 : decode cX11_next 8 = .ok (.aload_n 0, 1) := by decide +kernel
theorem dX11_next_9 : decode cX11_next 9 = .ok (.getfield 198, 3) := by decide +kernel
theorem dX11_next_12 : decode cX11_next 12 = .ok (.aload_n 0, 1) := by decide +kernel
theorem dX11_next_13 : decode cX11_next 13 = .ok (.getfield 189, 3) := by decide +kernel
theorem dX11_next_16 : decode cX11_next 16 = .ok (.if_icmp .ge 42, 3) := by decide +kernel
theorem dX11_next_19 : decode cX11_next 19 = .ok (.aload_n 0, 1) := by decide +kernel
theorem dX11_next_20 : decode cX11_next 20 = .ok (.aload_n 0, 1) := by decide +kernel
theorem dX11_next_21 : decode cX11_next 21 = .ok (.getfield 198, 3) := by decide +kernel
theorem dX11_next_24 : decode cX11_next 24 = .ok (.invokevirtual 201, 3) := by decide +kernel
end
section
theorem dX11_next_27 : decode cX11_next 27 = .ok (.bipush 32, 2) := by decide +kernel
theorem dX11_next_29 : decode cX11_next 29 = .ok (.if_icmp .eq 16, 3) := by decide +kernel
theorem dX11_next_32 : decode cX11_next 32 = .ok (.aload_n 0, 1) := by decide +kernel
theorem dX11_next_33 : decode cX11_next 33 = .ok (.aload_n 0, 1) := by decide +kernel
theorem dX11_next_34 : decode cX11_next 34 = .ok (.getfield 198, 3) := by decide +kernel
theorem dX11_next_37 : decode cX11_next 37 = .ok (.invokevirtual 201, 3) := by decide +kernel
theorem dX11_next_40 : decode cX11_next 40 = .ok (.bipush 10, 2) := by decide +kernel
theorem dX11_next_42 : decode cX11_next 42 = .ok (.if_icmp .ne 16, 3) := by decide +kernel
theorem dX11_next_45 : decode cX11_next 45 = .ok (.aload_n 0, 1) := by decide +kernel
theorem dX11_next_46 : decode cX11_next 46 = .ok (.dup, 1) := by decide +kernel
theorem dX11_next_47 : decode cX11_next 47 = .ok (.getfield 198, 3) := by decide +kernel
theorem dX11_next_50 : decode cX11_next 50 = .ok (.iconst 1, 1) := by decide +kernel
theorem dX11_next_51 : decode cX11_next 51 = .ok (.iadd, 1) := by decide +kernel
theorem dX11_next_52 : decode cX11_next 52 = .ok (.putfield 198, 3) := by decide +kernel
theorem dX11_next_55 : decode cX11_next 55 = .ok (.goto (-47), 3) := by decide +kernel
theorem dX11_next_58 : decode cX11_next 58 = .ok (.aload_n 0, 1) := by decide +kernel
theorem dX11_next_59 : decode cX11_next 59 = .ok (.aload_n 0, 1) := by decide +kernel
theorem dX11_next_60 : decode cX11_next 60 = .ok (.getfield 198, 3) := by decide +kernel
theorem dX11_next_63 : decode cX11_next 63 = .ok (.invokevirtual 201, 3) := by decide +kernel
theorem dX11_next_66 : decode cX11_next 66 = .ok (.istore_n 1, 1) := by decide +kernel
theorem dX11_next_67 : decode cX11_next 67 = .ok (.aload_n 0, 1) := by decide +kernel
theorem dX11_next_68 : decode cX11_next 68 = .ok (.aload_n 0, 1) := by decide +kernel
theorem dX11_next_69 : decode cX11_next 69 = .ok (.getfield 198, 3) := by decide +kernel
theorem dX11_next_72 : decode cX11_next 72 = .ok (.iconst 1, 1) := by decide +kernel
theorem dX11_next_73 : decode cX11_next 73 = .ok (.iadd, 1) := by decide +kernel
theorem dX11_next_74 : decode cX11_next 74 = .ok (.putfield 195, 3) := by decide +kernel
theorem dX11_next_77 : decode cX11_next 77 = .ok (.aload_n 0, 1) := by decide +kernel
theorem dX11_next_78 : decode cX11_next 78 = .ok (.getfield 198, 3) := by decide +kernel
theorem dX11_next_81 : decode cX11_next 81 = .ok (.aload_n 0, 1) := by decide +kernel
theorem dX11_next_82 : decode cX11_next 82 = .ok (.getfield 189, 3) := by decide +kernel
theorem dX11_next_85 : decode cX11_next 85 = .ok (.if_icmp .lt 27, 3) := by decide +kernel
theorem dX11_next_88 : decode cX11_next 88 = .ok (.aload_n 0, 1) := by decide +kernel
theorem dX11_next_89 : decode cX11_next 89 = .ok (.iconst 0, 1) := by decide +kernel
theorem dX11_next_90 : decode cX11_next 90 = .ok (.putfield 204, 3) := by decide +kernel
theorem dX11_next_93 : decode cX11_next 93 = .ok (.aload_n 0, 1) := by decide +kernel
theorem dX11_next_94 : decode cX11_next 94 = .ok (.aload_n 0, 1) := by decide +kernel
theorem dX11_next_95 : decode cX11_next 95 = .ok (.getfield 189, 3) := by decide +kernel
theorem dX11_next_98 : decode cX11_next 98 = .ok (.putfield 198, 3) := by decide +kernel
theorem dX11_next_101 : decode cX11_next 101 = .ok (.aload_n 0, 1) := by decide +kernel
theorem dX11_next_102 : decode cX11_next 102 = .ok (.aload_n 0, 1) := by decide +kernel
theorem dX11_next_103 : decode cX11_next 103 = .ok (.getfield 189, 3) := by decide +kernel
theorem dX11_next_106 : decode cX11_next 106 = .ok (.putfield 195, 3) := by decide +kernel
theorem dX11_next_109 : decode cX11_next 109 = .ok (.goto 400, 3) := by decide +kernel
theorem dX11_next_112 : decode cX11_next 112 = .ok (.iload_n 1, 1) := by decide +kernel
theorem dX11_next_113 : decode cX11_next 113 = .ok (.bipush 116, 2) := by decide +kernel
theorem dX11_next_115 : decode cX11_next 115 = .ok (.if_icmp .ne 100, 3) := by decide +kernel
theorem dX11_next_118 : decode cX11_next 118 = .ok (.aload_n 0, 1) := by decide +kernel
theorem dX11_next_119 : decode cX11_next 119 = .ok (.aload_n 0, 1) := by decide +kernel
theorem dX11_next_120 : decode cX11_next 120 = .ok (.getfield 198, 3) := by decide +kernel
theorem dX11_next_123 : decode cX11_next 123 = .ok (.iconst 1, 1) := by decide +kernel
theorem dX11_next_124 : decode cX11_next 124 = .ok (.iadd, 1) := by decide +kernel
theorem dX11_next_125 : decode cX11_next 125 = .ok (.invokevirtual 201, 3) := by decide +kernel
theorem dX11_next_128 : decode cX11_next 128 = .ok (.bipush 48, 2) := by decide +kernel
theorem dX11_next_130 : decode cX11_next 130 = .ok (.if_icmp .lt 85, 3) := by decide +kernel
theorem dX11_next_133 : decode cX11_next 133 = .ok (.aload_n 0, 1) := by decide +kernel
theorem dX11_next_134 : decode cX11_next 134 = .ok (.aload_n 0, 1) := by decide +kernel
theorem dX11_next_135 : decode cX11_next 135 = .ok (.getfield 198, 3) := by decide +kernel
theorem dX11_next_138 : decode cX11_next 138 = .ok (.iconst 1, 1) := by decide +kernel
theorem dX11_next_139 : decode cX11_next 139 = .ok (.iadd, 1) := by decide +kernel
theorem dX11_next_140 : decode cX11_next 140 = .ok (.invokevirtual 201, 3) := by decide +kernel
theorem dX11_next_143 : decode cX11_next 143 = .ok (.bipush 56, 2) := by decide +kernel
theorem dX11_next_145 : decode cX11_next 145 = .ok (.if_icmp .ge 70, 3) := by decide +kernel
theorem dX11_next_148 : decode cX11_next 148 = .ok (.aload_n 0, 1) := by decide +kernel
theorem dX11_next_149 : decode cX11_next 149 = .ok (.aload_n 0, 1) := by decide +kernel
theorem dX11_next_150 : decode cX11_next 150 = .ok (.getfield 198, 3) := by decide +kernel
theorem dX11_next_153 : decode cX11_next 153 = .ok (.iconst 2, 1) := by decide +kernel
theorem dX11_next_154 : decode cX11_next 154 = .ok (.iadd, 1) := by decide +kernel
theorem dX11_next_155 : decode cX11_next 155 = .ok (.invokevirtual 201, 3) := by decide +kernel
theorem dX11_next_158 : decode cX11_next 158 = .ok (.invokestatic 207, 3) := by decide +kernel
theorem dX11_next_161 : decode cX11_next 161 = .ok (.ifCond .ne 54, 3) := by decide +kernel
theorem dX11_next_164 : decode cX11_next 164 = .ok (.aload_n 0, 1) := by decide +kernel
theorem dX11_next_165 : decode cX11_next 165 = .ok (.aload_n 0, 1) := by decide +kernel
theorem dX11_next_166 : decode cX11_next 166 = .ok (.getfield 198, 3) := by decide +kernel
theorem dX11_next_169 : decode cX11_next 169 = .ok (.iconst 2, 1) := by decide +kernel
theorem dX11_next_170 : decode cX11_next 170 = .ok (.iadd, 1) := by decide +kernel
theorem dX11_next_171 : decode cX11_next 171 = .ok (.invokevirtual 201, 3) := by decide +kernel
theorem dX11_next_174 : decode cX11_next 174 = .ok (.invokestatic 210, 3) := by decide +kernel
theorem dX11_next_177 : decode cX11_next 177 = .ok (.ifCond .ne 38, 3) := by decide +kernel
theorem dX11_next_180 : decode cX11_next 180 = .ok (.aload_n 0, 1) := by decide +kernel
theorem dX11_next_181 : decode cX11_next 181 = .ok (.aload_n 0, 1) := by decide +kernel
theorem dX11_next_182 : decode cX11_next 182 = .ok (.aload_n 0, 1) := by decide +kernel
theorem dX11_next_183 : decode cX11_next 183 = .ok (.getfield 198, 3) := by decide +kernel
theorem dX11_next_186 : decode cX11_next 186 = .ok (.iconst 1, 1) := by decide +kernel
theorem dX11_next_187 : decode cX11_next 187 = .ok (.iadd, 1) := by decide +kernel
theorem dX11_next_188 : decode cX11_next 188 = .ok (.invokevirtual 201, 3) := by decide +kernel
theorem dX11_next_191 : decode cX11_next 191 = .ok (.bipush 48, 2) := by decide +kernel
theorem dX11_next_193 : decode cX11_next 193 = .ok (.isub, 1) := by decide +kernel
theorem dX11_next_194 : decode cX11_next 194 = .ok (.putfield 213, 3) := by decide +kernel
theorem dX11_next_197 : decode cX11_next 197 = .ok (.aload_n 0, 1) := by decide +kernel
theorem dX11_next_198 : decode cX11_next 198 = .ok (.aload_n 0, 1) := by decide +kernel
theorem dX11_next_199 : decode cX11_next 199 = .ok (.getfield 198, 3) := by decide +kernel
theorem dX11_next_202 : decode cX11_next 202 = .ok (.iconst 2, 1) := by decide +kernel
theorem dX11_next_203 : decode cX11_next 203 = .ok (.iadd, 1) := by decide +kernel
theorem dX11_next_204 : decode cX11_next 204 = .ok (.putfield 195, 3) := by decide +kernel
theorem dX11_next_207 : decode cX11_next 207 = .ok (.aload_n 0, 1) := by decide +kernel
theorem dX11_next_208 : decode cX11_next 208 = .ok (.iconst 4, 1) := by decide +kernel
theorem dX11_next_209 : decode cX11_next 209 = .ok (.putfield 204, 3) := by decide +kernel
theorem dX11_next_212 : decode cX11_next 212 = .ok (.goto 297, 3) := by decide +kernel
theorem dX11_next_215 : decode cX11_next 215 = .ok (.iload_n 1, 1) := by decide +kernel
theorem dX11_next_216 : decode cX11_next 216 = .ok (.invokestatic 207, 3) := by decide +kernel
theorem dX11_next_219 : decode cX11_next 219 = .ok (.ifCond .eq 109, 3) := by decide +kernel
theorem dX11_next_222 : decode cX11_next 222 = .ok (.aload_n 0, 1) := by decide +kernel
theorem dX11_next_223 : decode cX11_next 223 = .ok (.aload_n 0, 1) := by decide +kernel
theorem dX11_next_224 : decode cX11_next 224 = .ok (.getfield 195, 3) := by decide +kernel
theorem dX11_next_227 : decode cX11_next 227 = .ok (.invokevirtual 201, 3) := by decide +kernel
theorem dX11_next_230 : decode cX11_next 230 = .ok (.invokestatic 207, 3) := by decide +kernel
theorem dX11_next_233 : decode cX11_next 233 = .ok (.ifCond .eq 16, 3) := by decide +kernel
theorem dX11_next_236 : decode cX11_next 236 = .ok (.aload_n 0, 1) := by decide +kernel
theorem dX11_next_237 : decode cX11_next 237 = .ok (.dup, 1) := by decide +kernel
theorem dX11_next_238 : decode cX11_next 238 = .ok (.getfield 195, 3) := by decide +kernel
theorem dX11_next_241 : decode cX11_next 241 = .ok (.iconst 1, 1) := by decide +kernel
theorem dX11_next_242 : decode cX11_next 242 = .ok (.iadd, 1) := by decide +kernel
theorem dX11_next_243 : decode cX11_next 243 = .ok (.putfield 195, 3) := by decide +kernel
theorem dX11_next_246 : decode cX11_next 246 = .ok (.goto (-24), 3) := by decide +kernel
theorem dX11_next_249 : decode cX11_next 249 = .ok (.aload_n 0, 1) := by decide +kernel
theorem dX11_next_250 : decode cX11_next 250 = .ok (.lconst 0, 1) := by decide +kernel
theorem dX11_next_251 : decode cX11_next 251 = .ok (.putfield 216, 3) := by decide +kernel
theorem dX11_next_254 : decode cX11_next 254 = .ok (.aload_n 0, 1) := by decide +kernel
theorem dX11_next_255 : decode cX11_next 255 = .ok (.getfield 198, 3) := by decide +kernel
theorem dX11_next_258 : decode cX11_next 258 = .ok (.istore_n 2, 1) := by decide +kernel
theorem dX11_next_259 : decode cX11_next 259 = .ok (.iload_n 2, 1) := by decide +kernel
theorem dX11_next_260 : decode cX11_next 260 = .ok (.aload_n 0, 1) := by decide +kernel
theorem dX11_next_261 : decode cX11_next 261 = .ok (.getfield 195, 3) := by decide +kernel
theorem dX11_next_264 : decode cX11_next 264 = .ok (.if_icmp .ge 38, 3) := by decide +kernel
theorem dX11_next_267 : decode cX11_next 267 = .ok (.iload_n 2, 1) := by decide +kernel
theorem dX11_next_268 : decode cX11_next 268 = .ok (.aload_n 0, 1) := by decide +kernel
theorem dX11_next_269 : decode cX11_next 269 = .ok (.getfield 198, 3) := by decide +kernel
theorem dX11_next_272 : decode cX11_next 272 = .ok (.bipush 8, 2) := by decide +kernel
theorem dX11_next_274 : decode cX11_next 274 = .ok (.iadd, 1) := by decide +kernel
theorem dX11_next_275 : decode cX11_next 275 = .ok (.if_icmp .ge 27, 3) := by decide +kernel
theorem dX11_next_278 : decode cX11_next 278 = .ok (.aload_n 0, 1) := by decide +kernel
theorem dX11_next_279 : decode cX11_next 279 = .ok (.aload_n 0, 1) := by decide +kernel
theorem dX11_next_280 : decode cX11_next 280 = .ok (.getfield 216, 3) := by decide +kernel
theorem dX11_next_283 : decode cX11_next 283 = .ok (.bipush 8, 2) := by decide +kernel
theorem dX11_next_285 : decode cX11_next 285 = .ok (.lshl, 1) := by decide +kernel
theorem dX11_next_286 : decode cX11_next 286 = .ok (.aload_n 0, 1) := by decide +kernel
theorem dX11_next_287 : decode cX11_next 287 = .ok (.iload_n 2, 1) := by decide +kernel
theorem dX11_next_288 : decode cX11_next 288 = .ok (.invokevirtual 201, 3) := by decide +kernel
theorem dX11_next_291 : decode cX11_next 291 = .ok (.i2l, 1) := by decide +kernel
theorem dX11_next_292 : decode cX11_next 292 = .ok (.lor, 1) := by decide +kernel
theorem dX11_next_293 : decode cX11_next 293 = .ok (.putfield 216, 3) := by decide +kernel
theorem dX11_next_296 : decode cX11_next 296 = .ok (.iinc 2 1, 3) := by decide +kernel
theorem dX11_next_299 : decode cX11_next 299 = .ok (.goto (-40), 3) := by decide +kernel
theorem dX11_next_302 : decode cX11_next 302 = .ok (.aload_n 0, 1) := by decide +kernel
theorem dX11_next_303 : decode cX11_next 303 = .ok (.aload_n 0, 1) := by decide +kernel
theorem dX11_next_304 : decode cX11_next 304 = .ok (.getfield 195, 3) := by decide +kernel
theorem dX11_next_307 : decode cX11_next 307 = .ok (.aload_n 0, 1) := by decide +kernel
theorem dX11_next_308 : decode cX11_next 308 = .ok (.getfield 198, 3) := by decide +kernel
theorem dX11_next_311 : decode cX11_next 311 = .ok (.isub, 1) := by decide +kernel
theorem dX11_next_312 : decode cX11_next 312 = .ok (.bipush 8, 2) := by decide +kernel
theorem dX11_next_314 : decode cX11_next 314 = .ok (.if_icmp .le 7, 3) := by decide +kernel
theorem dX11_next_317 : decode cX11_next 317 = .ok (.iconst 1, 1) := by decide +kernel
theorem dX11_next_318 : decode cX11_next 318 = .ok (.goto 4, 3) := by decide +kernel
theorem dX11_next_321 : decode cX11_next 321 = .ok (.iconst 2, 1) := by decide +kernel
theorem dX11_next_322 : decode cX11_next 322 = .ok (.putfield 204, 3) := by decide +kernel
theorem dX11_next_325 : decode cX11_next 325 = .ok (.goto 184, 3) := by decide +kernel
theorem dX11_next_328 : decode cX11_next 328 = .ok (.iload_n 1, 1) := by decide +kernel
theorem dX11_next_329 : decode cX11_next 329 = .ok (.invokestatic 210, 3) := by decide +kernel
theorem dX11_next_332 : decode cX11_next 332 = .ok (.ifCond .eq 120, 3) := by decide +kernel
theorem dX11_next_335 : decode cX11_next 335 = .ok (.aload_n 0, 1) := by decide +kernel
theorem dX11_next_336 : decode cX11_next 336 = .ok (.iconst 0, 1) := by decide +kernel
theorem dX11_next_337 : decode cX11_next 337 = .ok (.putfield 213, 3) := by decide +kernel
theorem dX11_next_340 : decode cX11_next 340 = .ok (.aload_n 0, 1) := by decide +kernel
theorem dX11_next_341 : decode cX11_next 341 = .ok (.aload_n 0, 1) := by decide +kernel
theorem dX11_next_342 : decode cX11_next 342 = .ok (.getfield 198, 3) := by decide +kernel
theorem dX11_next_345 : decode cX11_next 345 = .ok (.putfield 195, 3) := by decide +kernel
theorem dX11_next_348 : decode cX11_next 348 = .ok (.aload_n 0, 1) := by decide +kernel
theorem dX11_next_349 : decode cX11_next 349 = .ok (.aload_n 0, 1) := by decide +kernel
theorem dX11_next_350 : decode cX11_next 350 = .ok (.getfield 195, 3) := by decide +kernel
theorem dX11_next_353 : decode cX11_next 353 = .ok (.invokevirtual 201, 3) := by decide +kernel
theorem dX11_next_356 : decode cX11_next 356 = .ok (.invokestatic 210, 3) := by decide +kernel
theorem dX11_next_359 : decode cX11_next 359 = .ok (.ifCond .eq 53, 3) := by decide +kernel
theorem dX11_next_362 : decode cX11_next 362 = .ok (.aload_n 0, 1) := by decide +kernel
theorem dX11_next_363 : decode cX11_next 363 = .ok (.getfield 195, 3) := by decide +kernel
theorem dX11_next_366 : decode cX11_next 366 = .ok (.aload_n 0, 1) := by decide +kernel
theorem dX11_next_367 : decode cX11_next 367 = .ok (.getfield 198, 3) := by decide +kernel
theorem dX11_next_370 : decode cX11_next 370 = .ok (.isub, 1) := by decide +kernel
theorem dX11_next_371 : decode cX11_next 371 = .ok (.bipush 6, 2) := by decide +kernel
theorem dX11_next_373 : decode cX11_next 373 = .ok (.if_icmp .ge 26, 3) := by decide +kernel
theorem dX11_next_376 : decode cX11_next 376 = .ok (.aload_n 0, 1) := by decide +kernel
theorem dX11_next_377 : decode cX11_next 377 = .ok (.bipush 10, 2) := by decide +kernel
theorem dX11_next_379 : decode cX11_next 379 = .ok (.aload_n 0, 1) := by decide +kernel
theorem dX11_next_380 : decode cX11_next 380 = .ok (.getfield 213, 3) := by decide +kernel
theorem dX11_next_383 : decode cX11_next 383 = .ok (.imul, 1) := by decide +kernel
theorem dX11_next_384 : decode cX11_next 384 = .ok (.aload_n 0, 1) := by decide +kernel
theorem dX11_next_385 : decode cX11_next 385 = .ok (.aload_n 0, 1) := by decide +kernel
theorem dX11_next_386 : decode cX11_next 386 = .ok (.getfield 195, 3) := by decide +kernel
theorem dX11_next_389 : decode cX11_next 389 = .ok (.invokevirtual 201, 3) := by decide +kernel
theorem dX11_next_392 : decode cX11_next 392 = .ok (.iadd, 1) := by decide +kernel
theorem dX11_next_393 : decode cX11_next 393 = .ok (.bipush 48, 2) := by decide +kernel
theorem dX11_next_395 : decode cX11_next 395 = .ok (.isub, 1) := by decide +kernel
theorem dX11_next_396 : decode cX11_next 396 = .ok (.putfield 213, 3) := by decide +kernel
theorem dX11_next_399 : decode cX11_next 399 = .ok (.aload_n 0, 1) := by decide +kernel
theorem dX11_next_400 : decode cX11_next 400 = .ok (.dup, 1) := by decide +kernel
theorem dX11_next_401 : decode cX11_next 401 = .ok (.getfield 195, 3) := by decide +kernel
theorem dX11_next_404 : decode cX11_next 404 = .ok (.iconst 1, 1) := by decide +kernel
theorem dX11_next_405 : decode cX11_next 405 = .ok (.iadd, 1) := by decide +kernel
theorem dX11_next_406 : decode cX11_next 406 = .ok (.putfield 195, 3) := by decide +kernel
theorem dX11_next_409 : decode cX11_next 409 = .ok (.goto (-61), 3) := by decide +kernel
theorem dX11_next_412 : decode cX11_next 412 = .ok (.aload_n 0, 1) := by decide +kernel
theorem dX11_next_413 : decode cX11_next 413 = .ok (.aload_n 0, 1) := by decide +kernel
theorem dX11_next_414 : decode cX11_next 414 = .ok (.getfield 195, 3) := by decide +kernel
theorem dX11_next_417 : decode cX11_next 417 = .ok (.aload_n 0, 1) := by decide +kernel
theorem dX11_next_418 : decode cX11_next 418 = .ok (.getfield 198, 3) := by decide +kernel
theorem dX11_next_421 : decode cX11_next 421 = .ok (.isub, 1) := by decide +kernel
theorem dX11_next_422 : decode cX11_next 422 = .ok (.bipush 6, 2) := by decide +kernel
theorem dX11_next_424 : decode cX11_next 424 = .ok (.if_icmp .gt 17, 3) := by decide +kernel
theorem dX11_next_427 : decode cX11_next 427 = .ok (.aload_n 0, 1) := by decide +kernel
theorem dX11_next_428 : decode cX11_next 428 = .ok (.aload_n 0, 1) := by decide +kernel
theorem dX11_next_429 : decode cX11_next 429 = .ok (.getfield 195, 3) := by decide +kernel
theorem dX11_next_432 : decode cX11_next 432 = .ok (.invokevirtual 201, 3) := by decide +kernel
theorem dX11_next_435 : decode cX11_next 435 = .ok (.invokestatic 207, 3) := by decide +kernel
theorem dX11_next_438 : decode cX11_next 438 = .ok (.ifCond .eq 7, 3) := by decide +kernel
theorem dX11_next_441 : decode cX11_next 441 = .ok (.iconst 1, 1) := by decide +kernel
theorem dX11_next_442 : decode cX11_next 442 = .ok (.goto 4, 3) := by decide +kernel
theorem dX11_next_445 : decode cX11_next 445 = .ok (.iconst 3, 1) := by decide +kernel
theorem dX11_next_446 : decode cX11_next 446 = .ok (.putfield 204, 3) := by decide +kernel
theorem dX11_next_449 : decode cX11_next 449 = .ok (.goto 60, 3) := by decide +kernel
theorem dX11_next_452 : decode cX11_next 452 = .ok (.aload_n 0, 1) := by decide +kernel
theorem dX11_next_453 : decode cX11_next 453 = .ok (.iload_n 1, 1) := by decide +kernel
theorem dX11_next_454 : decode cX11_next 454 = .ok (.bipush 59, 2) := by decide +kernel
theorem dX11_next_456 : decode cX11_next 456 = .ok (.if_icmp .eq 45, 3) := by decide +kernel
theorem dX11_next_459 : decode cX11_next 459 = .ok (.iload_n 1, 1) := by decide +kernel
theorem dX11_next_460 : decode cX11_next 460 = .ok (.bipush 40, 2) := by decide +kernel
theorem dX11_next_462 : decode cX11_next 462 = .ok (.if_icmp .eq 39, 3) := by decide +kernel
theorem dX11_next_465 : decode cX11_next 465 = .ok (.iload_n 1, 1) := by decide +kernel
theorem dX11_next_466 : decode cX11_next 466 = .ok (.bipush 41, 2) := by decide +kernel
theorem dX11_next_468 : decode cX11_next 468 = .ok (.if_icmp .eq 33, 3) := by decide +kernel
theorem dX11_next_471 : decode cX11_next 471 = .ok (.iload_n 1, 1) := by decide +kernel
theorem dX11_next_472 : decode cX11_next 472 = .ok (.bipush 60, 2) := by decide +kernel
theorem dX11_next_474 : decode cX11_next 474 = .ok (.if_icmp .eq 27, 3) := by decide +kernel
theorem dX11_next_477 : decode cX11_next 477 = .ok (.iload_n 1, 1) := by decide +kernel
theorem dX11_next_478 : decode cX11_next 478 = .ok (.bipush 62, 2) := by decide +kernel
theorem dX11_next_480 : decode cX11_next 480 = .ok (.if_icmp .eq 21, 3) := by decide +kernel
theorem dX11_next_483 : decode cX11_next 483 = .ok (.iload_n 1, 1) := by decide +kernel
theorem dX11_next_484 : decode cX11_next 484 = .ok (.bipush 61, 2) := by decide +kernel
theorem dX11_next_486 : decode cX11_next 486 = .ok (.if_icmp .eq 15, 3) := by decide +kernel
theorem dX11_next_489 : decode cX11_next 489 = .ok (.iload_n 1, 1) := by decide +kernel
theorem dX11_next_490 : decode cX11_next 490 = .ok (.bipush 43, 2) := by decide +kernel
theorem dX11_next_492 : decode cX11_next 492 = .ok (.if_icmp .eq 9, 3) := by decide +kernel
theorem dX11_next_495 : decode cX11_next 495 = .ok (.iload_n 1, 1) := by decide +kernel
theorem dX11_next_496 : decode cX11_next 496 = .ok (.bipush 45, 2) := by decide +kernel
theorem dX11_next_498 : decode cX11_next 498 = .ok (.if_icmp .ne 7, 3) := by decide +kernel
theorem dX11_next_501 : decode cX11_next 501 = .ok (.iconst 5, 1) := by decide +kernel
theorem dX11_next_502 : decode cX11_next 502 = .ok (.goto 4, 3) := by decide +kernel
theorem dX11_next_505 : decode cX11_next 505 = .ok (.iconst 1, 1) := by decide +kernel
theorem dX11_next_506 : decode cX11_next 506 = .ok (.putfield 204, 3) := by decide +kernel
theorem dX11_next_509 : decode cX11_next 509 = .ok (.return_, 1) := by decide +kernel
theorem dX11_is_0 : decode cX11_is 0 = .ok (.aload_n 0, 1) := by decide +kernel
theorem dX11_is_1 : decode cX11_is 1 = .ok (.getfield 204, 3) := by decide +kernel
theorem dX11_is_4 : decode cX11_is 4 = .ok (.iconst 5, 1) := by decide +kernel
theorem dX11_is_5 : decode cX11_is 5 = .ok (.if_icmp .ne 19, 3) := by decide +kernel
theorem dX11_is_8 : decode cX11_is 8 = .ok (.aload_n 0, 1) := by decide +kernel
theorem dX11_is_9 : decode cX11_is 9 = .ok (.aload_n 0, 1) := by decide +kernel
theorem dX11_is_10 : decode cX11_is 10 = .ok (.getfield 198, 3) := by decide +kernel
theorem dX11_is_13 : decode cX11_is 13 = .ok (.invokevirtual 201, 3) := by decide +kernel
theorem dX11_is_16 : decode cX11_is 16 = .ok (.iload_n 1, 1) := by decide +kernel
theorem dX11_is_17 : decode cX11_is 17 = .ok (.if_icmp .ne 7, 3) := by decide +kernel
theorem dX11_is_20 : decode cX11_is 20 = .ok (.iconst 1, 1) := by decide +kernel
theorem dX11_is_21 : decode cX11_is 21 = .ok (.goto 4, 3) := by decide +kernel
theorem dX11_is_24 : decode cX11_is 24 = .ok (.iconst 0, 1) := by decide +kernel
theorem dX11_is_25 : decode cX11_is 25 = .ok (.ireturn, 1) := by decide +kernel
theorem dX11_isWord_0 : decode cX11_isWord 0 = .ok (.aload_n 0, 1) := by decide +kernel
theorem dX11_isWord_1 : decode cX11_isWord 1 = .ok (.getfield 204, 3) := by decide +kernel
theorem dX11_isWord_4 : decode cX11_isWord 4 = .ok (.iconst 2, 1) := by decide +kernel
theorem dX11_isWord_5 : decode cX11_isWord 5 = .ok (.if_icmp .ne 16, 3) := by decide +kernel
theorem dX11_isWord_8 : decode cX11_isWord 8 = .ok (.aload_n 0, 1) := by decide +kernel
theorem dX11_isWord_9 : decode cX11_isWord 9 = .ok (.getfield 216, 3) := by decide +kernel
theorem dX11_isWord_12 : decode cX11_isWord 12 = .ok (.lload_n 1, 1) := by decide +kernel
theorem dX11_isWord_13 : decode cX11_isWord 13 = .ok (.lcmp, 1) := by decide +kernel
theorem dX11_isWord_14 : decode cX11_isWord 14 = .ok (.ifCond .ne 7, 3) := by decide +kernel
theorem dX11_isWord_17 : decode cX11_isWord 17 = .ok (.iconst 1, 1) := by decide +kernel
theorem dX11_isWord_18 : decode cX11_isWord 18 = .ok (.goto 4, 3) := by decide +kernel
theorem dX11_isWord_21 : decode cX11_isWord 21 = .ok (.iconst 0, 1) := by decide +kernel
theorem dX11_isWord_22 : decode cX11_isWord 22 = .ok (.ireturn, 1) := by decide +kernel
theorem dX11_wrong_0 : decode cX11_wrong 0 = .ok (.aload_n 0, 1) := by decide +kernel
theorem dX11_wrong_1 : decode cX11_wrong 1 = .ok (.aload_n 0, 1) := by decide +kernel
theorem dX11_wrong_2 : decode cX11_wrong 2 = .ok (.getfield 204, 3) := by decide +kernel
theorem dX11_wrong_5 : decode cX11_wrong 5 = .ok (.iconst 1, 1) := by decide +kernel
theorem dX11_wrong_6 : decode cX11_wrong 6 = .ok (.if_icmp .ne 7, 3) := by decide +kernel
theorem dX11_wrong_9 : decode cX11_wrong 9 = .ok (.iconst 1, 1) := by decide +kernel
theorem dX11_wrong_10 : decode cX11_wrong 10 = .ok (.goto 4, 3) := by decide +kernel
theorem dX11_wrong_13 : decode cX11_wrong 13 = .ok (.iconst 2, 1) := by decide +kernel
theorem dX11_wrong_14 : decode cX11_wrong 14 = .ok (.aload_n 0, 1) := by decide +kernel
theorem dX11_wrong_15 : decode cX11_wrong 15 = .ok (.getfield 198, 3) := by decide +kernel
theorem dX11_wrong_18 : decode cX11_wrong 18 = .ok (.invokevirtual 220, 3) := by decide +kernel
theorem dX11_wrong_21 : decode cX11_wrong 21 = .ok (.return_, 1) := by decide +kernel
theorem dX11_must_0 : decode cX11_must 0 = .ok (.aload_n 0, 1) := by decide +kernel
theorem dX11_must_1 : decode cX11_must 1 = .ok (.invokevirtual 224, 3) := by decide +kernel
theorem dX11_must_4 : decode cX11_must 4 = .ok (.ifCond .ne 4, 3) := by decide +kernel
theorem dX11_must_7 : decode cX11_must 7 = .ok (.return_, 1) := by decide +kernel
theorem dX11_must_8 : decode cX11_must 8 = .ok (.iload_n 1, 1) := by decide +kernel
theorem dX11_must_9 : decode cX11_must 9 = .ok (.ifCond .eq 10, 3) := by decide +kernel
theorem dX11_must_12 : decode cX11_must 12 = .ok (.aload_n 0, 1) := by decide +kernel
theorem dX11_must_13 : decode cX11_must 13 = .ok (.invokevirtual 228, 3) := by decide +kernel
theorem dX11_must_16 : decode cX11_must 16 = .ok (.goto 7, 3) := by decide +kernel
theorem dX11_must_19 : decode cX11_must 19 = .ok (.aload_n 0, 1) := by decide +kernel
theorem dX11_must_20 : decode cX11_must 20 = .ok (.invokevirtual 231, 3) := by decide +kernel
theorem dX11_must_23 : decode cX11_must 23 = .ok (.return_, 1) := by decide +kernel
theorem dX11_kindHere_0 : decode cX11_kindHere 0 = .ok (.aload_n 0, 1) := by decide +kernel
theorem dX11_kindHere_1 : decode cX11_kindHere 1 = .ok (.ldc2_w 234, 3) := by decide +kernel
theorem dX11_kindHere_4 : decode cX11_kindHere 4 = .ok (.invokevirtual 236, 3) := by decide +kernel
theorem dX11_kindHere_7 : decode cX11_kindHere 7 = .ok (.ifCond .eq 7, 3) := by decide +kernel
theorem dX11_kindHere_10 : decode cX11_kindHere 10 = .ok (.iconst 0, 1) := by decide +kernel
theorem dX11_kindHere_11 : decode cX11_kindHere 11 = .ok (.goto 32, 3) := by decide +kernel
theorem dX11_kindHere_14 : decode cX11_kindHere 14 = .ok (.aload_n 0, 1) := by decide +kernel
theorem dX11_kindHere_15 : decode cX11_kindHere 15 = .ok (.ldc2_w 240, 3) := by decide +kernel
theorem dX11_kindHere_18 : decode cX11_kindHere 18 = .ok (.invokevirtual 236, 3) := by decide +kernel
theorem dX11_kindHere_21 : decode cX11_kindHere 21 = .ok (.ifCond .eq 7, 3) := by decide +kernel
theorem dX11_kindHere_24 : decode cX11_kindHere 24 = .ok (.iconst 1, 1) := by decide +kernel
theorem dX11_kindHere_25 : decode cX11_kindHere 25 = .ok (.goto 18, 3) := by decide +kernel
theorem dX11_kindHere_28 : decode cX11_kindHere 28 = .ok (.aload_n 0, 1) := by decide +kernel
theorem dX11_kindHere_29 : decode cX11_kindHere 29 = .ok (.ldc2_w 242, 3) := by decide +kernel
theorem dX11_kindHere_32 : decode cX11_kindHere 32 = .ok (.invokevirtual 236, 3) := by decide +kernel
theorem dX11_kindHere_35 : decode cX11_kindHere 35 = .ok (.ifCond .eq 7, 3) := by decide +kernel
theorem dX11_kindHere_38 : decode cX11_kindHere 38 = .ok (.iconst 2, 1) := by decide +kernel
theorem dX11_kindHere_39 : decode cX11_kindHere 39 = .ok (.goto 4, 3) := by decide +kernel
theorem dX11_kindHere_42 : decode cX11_kindHere 42 = .ok (.iconst (-1), 1) := by decide +kernel
theorem dX11_kindHere_43 : decode cX11_kindHere 43 = .ok (.ireturn, 1) := by decide +kernel
theorem dX11_aKind_0 : decode cX11_aKind 0 = .ok (.aload_n 0, 1) := by decide +kernel
theorem dX11_aKind_1 : decode cX11_aKind 1 = .ok (.invokevirtual 244, 3) := by decide +kernel
theorem dX11_aKind_4 : decode cX11_aKind 4 = .ok (.istore_n 1, 1) := by decide +kernel
theorem dX11_aKind_5 : decode cX11_aKind 5 = .ok (.aload_n 0, 1) := by decide +kernel
theorem dX11_aKind_6 : decode cX11_aKind 6 = .ok (.iload_n 1, 1) := by decide +kernel
theorem dX11_aKind_7 : decode cX11_aKind 7 = .ok (.ifCond .lt 7, 3) := by decide +kernel
theorem dX11_aKind_10 : decode cX11_aKind 10 = .ok (.iconst 1, 1) := by decide +kernel
theorem dX11_aKind_11 : decode cX11_aKind 11 = .ok (.goto 4, 3) := by decide +kernel
theorem dX11_aKind_14 : decode cX11_aKind 14 = .ok (.iconst 0, 1) := by decide +kernel
theorem dX11_aKind_15 : decode cX11_aKind 15 = .ok (.invokevirtual 248, 3) := by decide +kernel
theorem dX11_aKind_18 : decode cX11_aKind 18 = .ok (.iload_n 1, 1) := by decide +kernel
theorem dX11_aKind_19 : decode cX11_aKind 19 = .ok (.ireturn, 1) := by decide +kernel
theorem dX11_aNumber_0 : decode cX11_aNumber 0 = .ok (.aload_n 0, 1) := by decide +kernel
theorem dX11_aNumber_1 : decode cX11_aNumber 1 = .ok (.getfield 213, 3) := by decide +kernel
theorem dX11_aNumber_4 : decode cX11_aNumber 4 = .ok (.istore_n 2, 1) := by decide +kernel
theorem dX11_aNumber_5 : decode cX11_aNumber 5 = .ok (.aload_n 0, 1) := by decide +kernel
theorem dX11_aNumber_6 : decode cX11_aNumber 6 = .ok (.aload_n 0, 1) := by decide +kernel
theorem dX11_aNumber_7 : decode cX11_aNumber 7 = .ok (.getfield 204, 3) := by decide +kernel
theorem dX11_aNumber_10 : decode cX11_aNumber 10 = .ok (.iload_n 1, 1) := by decide +kernel
theorem dX11_aNumber_11 : decode cX11_aNumber 11 = .ok (.if_icmp .ne 7, 3) := by decide +kernel
theorem dX11_aNumber_14 : decode cX11_aNumber 14 = .ok (.iconst 1, 1) := by decide +kernel
theorem dX11_aNumber_15 : decode cX11_aNumber 15 = .ok (.goto 4, 3) := by decide +kernel
theorem dX11_aNumber_18 : decode cX11_aNumber 18 = .ok (.iconst 0, 1) := by decide +kernel
theorem dX11_aNumber_19 : decode cX11_aNumber 19 = .ok (.invokevirtual 248, 3) := by decide +kernel
theorem dX11_aNumber_22 : decode cX11_aNumber 22 = .ok (.iload_n 2, 1) := by decide +kernel
theorem dX11_aNumber_23 : decode cX11_aNumber 23 = .ok (.ireturn, 1) := by decide +kernel
theorem dX11_orders_0 : decode cX11_orders 0 = .ok (.aload_n 0, 1) := by decide +kernel
theorem dX11_orders_1 : decode cX11_orders 1 = .ok (.iconst 0, 1) := by decide +kernel
theorem dX11_orders_2 : decode cX11_orders 2 = .ok (.putfield 192, 3) := by decide +kernel
theorem dX11_orders_5 : decode cX11_orders 5 = .ok (.aload_n 0, 1) := by decide +kernel
theorem dX11_orders_6 : decode cX11_orders 6 = .ok (.iconst (-1), 1) := by decide +kernel
theorem dX11_orders_7 : decode cX11_orders 7 = .ok (.putfield 38, 3) := by decide +kernel
theorem dX11_orders_10 : decode cX11_orders 10 = .ok (.aload_n 0, 1) := by decide +kernel
theorem dX11_orders_11 : decode cX11_orders 11 = .ok (.aload_n 0, 1) := by decide +kernel
theorem dX11_orders_12 : decode cX11_orders 12 = .ok (.getfield 252, 3) := by decide +kernel
theorem dX11_orders_15 : decode cX11_orders 15 = .ok (.putfield 189, 3) := by decide +kernel
theorem dX11_orders_18 : decode cX11_orders 18 = .ok (.iconst 0, 1) := by decide +kernel
theorem dX11_orders_19 : decode cX11_orders 19 = .ok (.istore_n 1, 1) := by decide +kernel
theorem dX11_orders_20 : decode cX11_orders 20 = .ok (.iload_n 1, 1) := by decide +kernel
theorem dX11_orders_21 : decode cX11_orders 21 = .ok (.aload_n 0, 1) := by decide +kernel
theorem dX11_orders_22 : decode cX11_orders 22 = .ok (.getfield 189, 3) := by decide +kernel
theorem dX11_orders_25 : decode cX11_orders 25 = .ok (.if_icmp .ge 21, 3) := by decide +kernel
theorem dX11_orders_28 : decode cX11_orders 28 = .ok (.aload_n 0, 1) := by decide +kernel
theorem dX11_orders_29 : decode cX11_orders 29 = .ok (.getfield 35, 3) := by decide +kernel
theorem dX11_orders_32 : decode cX11_orders 32 = .ok (.iload_n 1, 1) := by decide +kernel
theorem dX11_orders_33 : decode cX11_orders 33 = .ok (.aload_n 0, 1) := by decide +kernel
theorem dX11_orders_34 : decode cX11_orders 34 = .ok (.getfield 31, 3) := by decide +kernel
theorem dX11_orders_37 : decode cX11_orders 37 = .ok (.iload_n 1, 1) := by decide +kernel
theorem dX11_orders_38 : decode cX11_orders 38 = .ok (.baload, 1) := by decide +kernel
theorem dX11_orders_39 : decode cX11_orders 39 = .ok (.bastore, 1) := by decide +kernel
theorem dX11_orders_40 : decode cX11_orders 40 = .ok (.iinc 1 1, 3) := by decide +kernel
theorem dX11_orders_43 : decode cX11_orders 43 = .ok (.goto (-23), 3) := by decide +kernel
theorem dX11_orders_46 : decode cX11_orders 46 = .ok (.aload_n 0, 1) := by decide +kernel
theorem dX11_orders_47 : decode cX11_orders 47 = .ok (.iconst 0, 1) := by decide +kernel
theorem dX11_orders_48 : decode cX11_orders 48 = .ok (.putfield 252, 3) := by decide +kernel
theorem dX11_orders_51 : decode cX11_orders 51 = .ok (.aload_n 0, 1) := by decide +kernel
theorem dX11_orders_52 : decode cX11_orders 52 = .ok (.iconst 0, 1) := by decide +kernel
theorem dX11_orders_53 : decode cX11_orders 53 = .ok (.putfield 195, 3) := by decide +kernel
theorem dX11_orders_56 : decode cX11_orders 56 = .ok (.aload_n 0, 1) := by decide +kernel
theorem dX11_orders_57 : decode cX11_orders 57 = .ok (.iconst 1, 1) := by decide +kernel
theorem dX11_orders_58 : decode cX11_orders 58 = .ok (.aload_n 0, 1) := by decide +kernel
theorem dX11_orders_59 : decode cX11_orders 59 = .ok (.getfield 255, 3) := by decide +kernel
theorem dX11_orders_62 : decode cX11_orders 62 = .ok (.isub, 1) := by decide +kernel
theorem dX11_orders_63 : decode cX11_orders 63 = .ok (.putfield 258, 3) := by decide +kernel
theorem dX11_orders_66 : decode cX11_orders 66 = .ok (.aload_n 0, 1) := by decide +kernel
theorem dX11_orders_67 : decode cX11_orders 67 = .ok (.getfield 42, 3) := by decide +kernel
theorem dX11_orders_70 : decode cX11_orders 70 = .ok (.aload_n 0, 1) := by decide +kernel
theorem dX11_orders_71 : decode cX11_orders 71 = .ok (.getfield 258, 3) := by decide +kernel
theorem dX11_orders_74 : decode cX11_orders 74 = .ok (.iconst 0, 1) := by decide +kernel
theorem dX11_orders_75 : decode cX11_orders 75 = .ok (.iastore, 1) := by decide +kernel
theorem dX11_orders_76 : decode cX11_orders 76 = .ok (.aload_n 0, 1) := by decide +kernel
theorem dX11_orders_77 : decode cX11_orders 77 = .ok (.iconst 0, 1) := by decide +kernel
theorem dX11_orders_78 : decode cX11_orders 78 = .ok (.putfield 261, 3) := by decide +kernel
theorem dX11_orders_81 : decode cX11_orders 81 = .ok (.aload_n 0, 1) := by decide +kernel
theorem dX11_orders_82 : decode cX11_orders 82 = .ok (.iconst 0, 1) := by decide +kernel
theorem dX11_orders_83 : decode cX11_orders 83 = .ok (.putfield 264, 3) := by decide +kernel
theorem dX11_orders_86 : decode cX11_orders 86 = .ok (.aload_n 0, 1) := by decide +kernel
theorem dX11_orders_87 : decode cX11_orders 87 = .ok (.invokevirtual 228, 3) := by decide +kernel
theorem dX11_orders_90 : decode cX11_orders 90 = .ok (.aload_n 0, 1) := by decide +kernel
theorem dX11_orders_91 : decode cX11_orders 91 = .ok (.invokevirtual 224, 3) := by decide +kernel
theorem dX11_orders_94 : decode cX11_orders 94 = .ok (.ifCond .eq 17, 3) := by decide +kernel
theorem dX11_orders_97 : decode cX11_orders 97 = .ok (.aload_n 0, 1) := by decide +kernel
theorem dX11_orders_98 : decode cX11_orders 98 = .ok (.getfield 204, 3) := by decide +kernel
theorem dX11_orders_101 : decode cX11_orders 101 = .ok (.ifCond .eq 10, 3) := by decide +kernel
theorem dX11_orders_104 : decode cX11_orders 104 = .ok (.aload_n 0, 1) := by decide +kernel
theorem dX11_orders_105 : decode cX11_orders 105 = .ok (.invokevirtual 267, 3) := by decide +kernel
theorem dX11_orders_108 : decode cX11_orders 108 = .ok (.goto (-18), 3) := by decide +kernel
theorem dX11_orders_111 : decode cX11_orders 111 = .ok (.aload_n 0, 1) := by decide +kernel
theorem dX11_orders_112 : decode cX11_orders 112 = .ok (.invokevirtual 224, 3) := by decide +kernel
theorem dX11_orders_115 : decode cX11_orders 115 = .ok (.ifCond .ne 5, 3) := by decide +kernel
theorem dX11_orders_118 : decode cX11_orders 118 = .ok (.iconst (-1), 1) := by decide +kernel
theorem dX11_orders_119 : decode cX11_orders 119 = .ok (.ireturn, 1) := by decide +kernel
theorem dX11_orders_120 : decode cX11_orders 120 = .ok (.aload_n 0, 1) := by decide +kernel
theorem dX11_orders_121 : decode cX11_orders 121 = .ok (.aload_n 0, 1) := by decide +kernel
theorem dX11_orders_122 : decode cX11_orders 122 = .ok (.getfield 258, 3) := by decide +kernel
theorem dX11_orders_125 : decode cX11_orders 125 = .ok (.putfield 255, 3) := by decide +kernel
theorem dX11_orders_128 : decode cX11_orders 128 = .ok (.aload_n 0, 1) := by decide +kernel
theorem dX11_orders_129 : decode cX11_orders 129 = .ok (.getfield 42, 3) := by decide +kernel
theorem dX11_orders_132 : decode cX11_orders 132 = .ok (.aload_n 0, 1) := by decide +kernel
theorem dX11_orders_133 : decode cX11_orders 133 = .ok (.getfield 255, 3) := by decide +kernel
theorem dX11_orders_136 : decode cX11_orders 136 = .ok (.iaload, 1) := by decide +kernel
theorem dX11_orders_137 : decode cX11_orders 137 = .ok (.ireturn, 1) := by decide +kernel
theorem dX11_readLine_0 : decode cX11_readLine 0 = .ok (.aload_n 0, 1) := by decide +kernel
theorem dX11_readLine_1 : decode cX11_readLine 1 = .ok (.ldc2_w 270, 3) := by decide +kernel
theorem dX11_readLine_4 : decode cX11_readLine 4 = .ok (.invokevirtual 236, 3) := by decide +kernel
theorem dX11_readLine_7 : decode cX11_readLine 7 = .ok (.istore_n 1, 1) := by decide +kernel
theorem dX11_readLine_8 : decode cX11_readLine 8 = .ok (.iload_n 1, 1) := by decide +kernel
theorem dX11_readLine_9 : decode cX11_readLine 9 = .ok (.ifCond .ne 13, 3) := by decide +kernel
theorem dX11_readLine_12 : decode cX11_readLine 12 = .ok (.aload_n 0, 1) := by decide +kernel
theorem dX11_readLine_13 : decode cX11_readLine 13 = .ok (.ldc2_w 272, 3) := by decide +kernel
theorem dX11_readLine_16 : decode cX11_readLine 16 = .ok (.invokevirtual 236, 3) := by decide +kernel
theorem dX11_readLine_19 : decode cX11_readLine 19 = .ok (.ifCond .eq 17, 3) := by decide +kernel
theorem dX11_readLine_22 : decode cX11_readLine 22 = .ok (.aload_n 0, 1) := by decide +kernel
theorem dX11_readLine_23 : decode cX11_readLine 23 = .ok (.getfield 42, 3) := by decide +kernel
theorem dX11_readLine_26 : decode cX11_readLine 26 = .ok (.aload_n 0, 1) := by decide +kernel
theorem dX11_readLine_27 : decode cX11_readLine 27 = .ok (.getfield 258, 3) := by decide +kernel
theorem dX11_readLine_30 : decode cX11_readLine 30 = .ok (.iaload, 1) := by decide +kernel
theorem dX11_readLine_31 : decode cX11_readLine 31 = .ok (.bipush 12, 2) := by decide +kernel
theorem dX11_readLine_33 : decode cX11_readLine 33 = .ok (.if_icmp .ne 7, 3) := by decide +kernel
theorem dX11_readLine_36 : decode cX11_readLine 36 = .ok (.aload_n 0, 1) := by decide +kernel
theorem dX11_readLine_37 : decode cX11_readLine 37 = .ok (.invokevirtual 231, 3) := by decide +kernel
theorem dX11_readLine_40 : decode cX11_readLine 40 = .ok (.aload_n 0, 1) := by decide +kernel
theorem dX11_readLine_41 : decode cX11_readLine 41 = .ok (.invokevirtual 224, 3) := by decide +kernel
theorem dX11_readLine_44 : decode cX11_readLine 44 = .ok (.ifCond .ne 4, 3) := by decide +kernel
theorem dX11_readLine_47 : decode cX11_readLine 47 = .ok (.return_, 1) := by decide +kernel
theorem dX11_readLine_48 : decode cX11_readLine 48 = .ok (.bipush 12, 2) := by decide +kernel
theorem dX11_readLine_50 : decode cX11_readLine 50 = .ok (.aload_n 0, 1) := by decide +kernel
theorem dX11_readLine_51 : decode cX11_readLine 51 = .ok (.getfield 258, 3) := by decide +kernel
theorem dX11_readLine_54 : decode cX11_readLine 54 = .ok (.imul, 1) := by decide +kernel
theorem dX11_readLine_55 : decode cX11_readLine 55 = .ok (.aload_n 0, 1) := by decide +kernel
theorem dX11_readLine_56 : decode cX11_readLine 56 = .ok (.getfield 42, 3) := by decide +kernel
end
section
theorem dX11_readLine_59 : decode cX11_readLine 59 = .ok (.aload_n 0, 1) := by decide +kernel
theorem dX11_readLine_60 : decode cX11_readLine 60 = .ok (.getfield 258, 3) := by decide +kernel
theorem dX11_readLine_63 : decode cX11_readLine 63 = .ok (.iaload, 1) := by decide +kernel
theorem dX11_readLine_64 : decode cX11_readLine 64 = .ok (.iadd, 1) := by decide +kernel
theorem dX11_readLine_65 : decode cX11_readLine 65 = .ok (.istore_n 2, 1) := by decide +kernel
theorem dX11_readLine_66 : decode cX11_readLine 66 = .ok (.aload_n 0, 1) := by decide +kernel
theorem dX11_readLine_67 : decode cX11_readLine 67 = .ok (.getfield 45, 3) := by decide +kernel
theorem dX11_readLine_70 : decode cX11_readLine 70 = .ok (.iload_n 2, 1) := by decide +kernel
theorem dX11_readLine_71 : decode cX11_readLine 71 = .ok (.aload_n 0, 1) := by decide +kernel
theorem dX11_readLine_72 : decode cX11_readLine 72 = .ok (.getfield 261, 3) := by decide +kernel
theorem dX11_readLine_75 : decode cX11_readLine 75 = .ok (.iastore, 1) := by decide +kernel
theorem dX11_readLine_76 : decode cX11_readLine 76 = .ok (.iload_n 1, 1) := by decide +kernel
theorem dX11_readLine_77 : decode cX11_readLine 77 = .ok (.ifCond .eq 11, 3) := by decide +kernel
theorem dX11_readLine_80 : decode cX11_readLine 80 = .ok (.aload_n 0, 1) := by decide +kernel
theorem dX11_readLine_81 : decode cX11_readLine 81 = .ok (.invokevirtual 228, 3) := by decide +kernel
theorem dX11_readLine_84 : decode cX11_readLine 84 = .ok (.aload_n 0, 1) := by decide +kernel
theorem dX11_readLine_85 : decode cX11_readLine 85 = .ok (.invokevirtual 274, 3) := by decide +kernel
theorem dX11_readLine_88 : decode cX11_readLine 88 = .ok (.aload_n 0, 1) := by decide +kernel
theorem dX11_readLine_89 : decode cX11_readLine 89 = .ok (.getfield 48, 3) := by decide +kernel
theorem dX11_readLine_92 : decode cX11_readLine 92 = .ok (.iload_n 2, 1) := by decide +kernel
theorem dX11_readLine_93 : decode cX11_readLine 93 = .ok (.aload_n 0, 1) := by decide +kernel
theorem dX11_readLine_94 : decode cX11_readLine 94 = .ok (.getfield 261, 3) := by decide +kernel
theorem dX11_readLine_97 : decode cX11_readLine 97 = .ok (.iastore, 1) := by decide +kernel
theorem dX11_readLine_98 : decode cX11_readLine 98 = .ok (.aload_n 0, 1) := by decide +kernel
theorem dX11_readLine_99 : decode cX11_readLine 99 = .ok (.aload_n 0, 1) := by decide +kernel
theorem dX11_readLine_100 : decode cX11_readLine 100 = .ok (.ldc2_w 272, 3) := by decide +kernel
theorem dX11_readLine_103 : decode cX11_readLine 103 = .ok (.invokevirtual 236, 3) := by decide +kernel
theorem dX11_readLine_106 : decode cX11_readLine 106 = .ok (.invokevirtual 248, 3) := by decide +kernel
theorem dX11_readLine_109 : decode cX11_readLine 109 = .ok (.aload_n 0, 1) := by decide +kernel
theorem dX11_readLine_110 : decode cX11_readLine 110 = .ok (.getfield 51, 3) := by decide +kernel
theorem dX11_readLine_113 : decode cX11_readLine 113 = .ok (.iload_n 2, 1) := by decide +kernel
theorem dX11_readLine_114 : decode cX11_readLine 114 = .ok (.aload_n 0, 1) := by decide +kernel
theorem dX11_readLine_115 : decode cX11_readLine 115 = .ok (.iconst 3, 1) := by decide +kernel
theorem dX11_readLine_116 : decode cX11_readLine 116 = .ok (.invokevirtual 277, 3) := by decide +kernel
theorem dX11_readLine_119 : decode cX11_readLine 119 = .ok (.iastore, 1) := by decide +kernel
theorem dX11_readLine_120 : decode cX11_readLine 120 = .ok (.aload_n 0, 1) := by decide +kernel
theorem dX11_readLine_121 : decode cX11_readLine 121 = .ok (.getfield 54, 3) := by decide +kernel
theorem dX11_readLine_124 : decode cX11_readLine 124 = .ok (.iload_n 2, 1) := by decide +kernel
theorem dX11_readLine_125 : decode cX11_readLine 125 = .ok (.aload_n 0, 1) := by decide +kernel
theorem dX11_readLine_126 : decode cX11_readLine 126 = .ok (.invokevirtual 280, 3) := by decide +kernel
theorem dX11_readLine_129 : decode cX11_readLine 129 = .ok (.iastore, 1) := by decide +kernel
theorem dX11_readLine_130 : decode cX11_readLine 130 = .ok (.aload_n 0, 1) := by decide +kernel
theorem dX11_readLine_131 : decode cX11_readLine 131 = .ok (.aload_n 0, 1) := by decide +kernel
theorem dX11_readLine_132 : decode cX11_readLine 132 = .ok (.ldc2_w 283, 3) := by decide +kernel
theorem dX11_readLine_135 : decode cX11_readLine 135 = .ok (.invokevirtual 236, 3) := by decide +kernel
theorem dX11_readLine_138 : decode cX11_readLine 138 = .ok (.invokevirtual 248, 3) := by decide +kernel
theorem dX11_readLine_141 : decode cX11_readLine 141 = .ok (.aload_n 0, 1) := by decide +kernel
theorem dX11_readLine_142 : decode cX11_readLine 142 = .ok (.getfield 57, 3) := by decide +kernel
theorem dX11_readLine_145 : decode cX11_readLine 145 = .ok (.iload_n 2, 1) := by decide +kernel
theorem dX11_readLine_146 : decode cX11_readLine 146 = .ok (.aload_n 0, 1) := by decide +kernel
theorem dX11_readLine_147 : decode cX11_readLine 147 = .ok (.iconst 4, 1) := by decide +kernel
theorem dX11_readLine_148 : decode cX11_readLine 148 = .ok (.invokevirtual 277, 3) := by decide +kernel
theorem dX11_readLine_151 : decode cX11_readLine 151 = .ok (.iastore, 1) := by decide +kernel
theorem dX11_readLine_152 : decode cX11_readLine 152 = .ok (.aload_n 0, 1) := by decide +kernel
theorem dX11_readLine_153 : decode cX11_readLine 153 = .ok (.aload_n 0, 1) := by decide +kernel
theorem dX11_readLine_154 : decode cX11_readLine 154 = .ok (.ldc2_w 285, 3) := by decide +kernel
theorem dX11_readLine_157 : decode cX11_readLine 157 = .ok (.invokevirtual 236, 3) := by decide +kernel
theorem dX11_readLine_160 : decode cX11_readLine 160 = .ok (.invokevirtual 248, 3) := by decide +kernel
theorem dX11_readLine_163 : decode cX11_readLine 163 = .ok (.aload_n 0, 1) := by decide +kernel
theorem dX11_readLine_164 : decode cX11_readLine 164 = .ok (.invokevirtual 224, 3) := by decide +kernel
theorem dX11_readLine_167 : decode cX11_readLine 167 = .ok (.ifCond .eq 33, 3) := by decide +kernel
theorem dX11_readLine_170 : decode cX11_readLine 170 = .ok (.aload_n 0, 1) := by decide +kernel
theorem dX11_readLine_171 : decode cX11_readLine 171 = .ok (.getfield 204, 3) := by decide +kernel
theorem dX11_readLine_174 : decode cX11_readLine 174 = .ok (.iconst 4, 1) := by decide +kernel
theorem dX11_readLine_175 : decode cX11_readLine 175 = .ok (.if_icmp .ne 25, 3) := by decide +kernel
theorem dX11_readLine_178 : decode cX11_readLine 178 = .ok (.aload_n 0, 1) := by decide +kernel
theorem dX11_readLine_179 : decode cX11_readLine 179 = .ok (.getfield 213, 3) := by decide +kernel
theorem dX11_readLine_182 : decode cX11_readLine 182 = .ok (.aload_n 0, 1) := by decide +kernel
theorem dX11_readLine_183 : decode cX11_readLine 183 = .ok (.getfield 57, 3) := by decide +kernel
theorem dX11_readLine_186 : decode cX11_readLine 186 = .ok (.iload_n 2, 1) := by decide +kernel
theorem dX11_readLine_187 : decode cX11_readLine 187 = .ok (.iaload, 1) := by decide +kernel
theorem dX11_readLine_188 : decode cX11_readLine 188 = .ok (.if_icmp .ne 12, 3) := by decide +kernel
theorem dX11_readLine_191 : decode cX11_readLine 191 = .ok (.aload_n 0, 1) := by decide +kernel
theorem dX11_readLine_192 : decode cX11_readLine 192 = .ok (.iconst 3, 1) := by decide +kernel
theorem dX11_readLine_193 : decode cX11_readLine 193 = .ok (.aload_n 0, 1) := by decide +kernel
theorem dX11_readLine_194 : decode cX11_readLine 194 = .ok (.getfield 198, 3) := by decide +kernel
theorem dX11_readLine_197 : decode cX11_readLine 197 = .ok (.invokevirtual 220, 3) := by decide +kernel
theorem dX11_readLine_200 : decode cX11_readLine 200 = .ok (.aload_n 0, 1) := by decide +kernel
theorem dX11_readLine_201 : decode cX11_readLine 201 = .ok (.getfield 60, 3) := by decide +kernel
theorem dX11_readLine_204 : decode cX11_readLine 204 = .ok (.iload_n 2, 1) := by decide +kernel
theorem dX11_readLine_205 : decode cX11_readLine 205 = .ok (.aload_n 0, 1) := by decide +kernel
theorem dX11_readLine_206 : decode cX11_readLine 206 = .ok (.iconst 4, 1) := by decide +kernel
theorem dX11_readLine_207 : decode cX11_readLine 207 = .ok (.invokevirtual 277, 3) := by decide +kernel
theorem dX11_readLine_210 : decode cX11_readLine 210 = .ok (.iastore, 1) := by decide +kernel
theorem dX11_readLine_211 : decode cX11_readLine 211 = .ok (.aload_n 0, 1) := by decide +kernel
theorem dX11_readLine_212 : decode cX11_readLine 212 = .ok (.aload_n 0, 1) := by decide +kernel
theorem dX11_readLine_213 : decode cX11_readLine 213 = .ok (.bipush 59, 2) := by decide +kernel
theorem dX11_readLine_215 : decode cX11_readLine 215 = .ok (.invokevirtual 287, 3) := by decide +kernel
theorem dX11_readLine_218 : decode cX11_readLine 218 = .ok (.invokevirtual 248, 3) := by decide +kernel
theorem dX11_readLine_221 : decode cX11_readLine 221 = .ok (.aload_n 0, 1) := by decide +kernel
theorem dX11_readLine_222 : decode cX11_readLine 222 = .ok (.getfield 42, 3) := by decide +kernel
theorem dX11_readLine_225 : decode cX11_readLine 225 = .ok (.aload_n 0, 1) := by decide +kernel
theorem dX11_readLine_226 : decode cX11_readLine 226 = .ok (.getfield 258, 3) := by decide +kernel
theorem dX11_readLine_229 : decode cX11_readLine 229 = .ok (.dup2, 1) := by decide +kernel
theorem dX11_readLine_230 : decode cX11_readLine 230 = .ok (.iaload, 1) := by decide +kernel
theorem dX11_readLine_231 : decode cX11_readLine 231 = .ok (.iconst 1, 1) := by decide +kernel
theorem dX11_readLine_232 : decode cX11_readLine 232 = .ok (.iadd, 1) := by decide +kernel
theorem dX11_readLine_233 : decode cX11_readLine 233 = .ok (.iastore, 1) := by decide +kernel
theorem dX11_readLine_234 : decode cX11_readLine 234 = .ok (.return_, 1) := by decide +kernel
theorem dX11_step_0 : decode cX11_step 0 = .ok (.aload_n 0, 1) := by decide +kernel
theorem dX11_step_1 : decode cX11_step 1 = .ok (.getfield 63, 3) := by decide +kernel
theorem dX11_step_4 : decode cX11_step 4 = .ok (.sipush 1000, 3) := by decide +kernel
theorem dX11_step_7 : decode cX11_step 7 = .ok (.aload_n 0, 1) := by decide +kernel
theorem dX11_step_8 : decode cX11_step 8 = .ok (.getfield 258, 3) := by decide +kernel
theorem dX11_step_11 : decode cX11_step 11 = .ok (.imul, 1) := by decide +kernel
theorem dX11_step_12 : decode cX11_step 12 = .ok (.aload_n 0, 1) := by decide +kernel
theorem dX11_step_13 : decode cX11_step 13 = .ok (.getfield 261, 3) := by decide +kernel
theorem dX11_step_16 : decode cX11_step 16 = .ok (.iadd, 1) := by decide +kernel
theorem dX11_step_17 : decode cX11_step 17 = .ok (.iload_n 1, 1) := by decide +kernel
theorem dX11_step_18 : decode cX11_step 18 = .ok (.iastore, 1) := by decide +kernel
theorem dX11_step_19 : decode cX11_step 19 = .ok (.aload_n 0, 1) := by decide +kernel
theorem dX11_step_20 : decode cX11_step 20 = .ok (.getfield 66, 3) := by decide +kernel
theorem dX11_step_23 : decode cX11_step 23 = .ok (.sipush 1000, 3) := by decide +kernel
theorem dX11_step_26 : decode cX11_step 26 = .ok (.aload_n 0, 1) := by decide +kernel
theorem dX11_step_27 : decode cX11_step 27 = .ok (.getfield 258, 3) := by decide +kernel
theorem dX11_step_30 : decode cX11_step 30 = .ok (.imul, 1) := by decide +kernel
theorem dX11_step_31 : decode cX11_step 31 = .ok (.aload_n 0, 1) := by decide +kernel
theorem dX11_step_32 : decode cX11_step 32 = .ok (.getfield 261, 3) := by decide +kernel
theorem dX11_step_35 : decode cX11_step 35 = .ok (.iadd, 1) := by decide +kernel
theorem dX11_step_36 : decode cX11_step 36 = .ok (.iload_n 2, 1) := by decide +kernel
theorem dX11_step_37 : decode cX11_step 37 = .ok (.iastore, 1) := by decide +kernel
theorem dX11_step_38 : decode cX11_step 38 = .ok (.aload_n 0, 1) := by decide +kernel
theorem dX11_step_39 : decode cX11_step 39 = .ok (.getfield 69, 3) := by decide +kernel
theorem dX11_step_42 : decode cX11_step 42 = .ok (.sipush 1000, 3) := by decide +kernel
theorem dX11_step_45 : decode cX11_step 45 = .ok (.aload_n 0, 1) := by decide +kernel
theorem dX11_step_46 : decode cX11_step 46 = .ok (.getfield 258, 3) := by decide +kernel
theorem dX11_step_49 : decode cX11_step 49 = .ok (.imul, 1) := by decide +kernel
theorem dX11_step_50 : decode cX11_step 50 = .ok (.aload_n 0, 1) := by decide +kernel
theorem dX11_step_51 : decode cX11_step 51 = .ok (.getfield 261, 3) := by decide +kernel
theorem dX11_step_54 : decode cX11_step 54 = .ok (.iadd, 1) := by decide +kernel
theorem dX11_step_55 : decode cX11_step 55 = .ok (.iload_n 3, 1) := by decide +kernel
theorem dX11_step_56 : decode cX11_step 56 = .ok (.iastore, 1) := by decide +kernel
theorem dX11_step_57 : decode cX11_step 57 = .ok (.aload_n 0, 1) := by decide +kernel
theorem dX11_step_58 : decode cX11_step 58 = .ok (.dup, 1) := by decide +kernel
theorem dX11_step_59 : decode cX11_step 59 = .ok (.getfield 261, 3) := by decide +kernel
theorem dX11_step_62 : decode cX11_step 62 = .ok (.iconst 1, 1) := by decide +kernel
theorem dX11_step_63 : decode cX11_step 63 = .ok (.iadd, 1) := by decide +kernel
theorem dX11_step_64 : decode cX11_step 64 = .ok (.putfield 261, 3) := by decide +kernel
theorem dX11_step_67 : decode cX11_step 67 = .ok (.return_, 1) := by decide +kernel
theorem dX11_pile_0 : decode cX11_pile 0 = .ok (.aload_n 0, 1) := by decide +kernel
theorem dX11_pile_1 : decode cX11_pile 1 = .ok (.getfield 72, 3) := by decide +kernel
theorem dX11_pile_4 : decode cX11_pile 4 = .ok (.aload_n 0, 1) := by decide +kernel
theorem dX11_pile_5 : decode cX11_pile 5 = .ok (.getfield 290, 3) := by decide +kernel
theorem dX11_pile_8 : decode cX11_pile 8 = .ok (.iload_n 1, 1) := by decide +kernel
theorem dX11_pile_9 : decode cX11_pile 9 = .ok (.iastore, 1) := by decide +kernel
theorem dX11_pile_10 : decode cX11_pile 10 = .ok (.aload_n 0, 1) := by decide +kernel
theorem dX11_pile_11 : decode cX11_pile 11 = .ok (.dup, 1) := by decide +kernel
theorem dX11_pile_12 : decode cX11_pile 12 = .ok (.getfield 290, 3) := by decide +kernel
theorem dX11_pile_15 : decode cX11_pile 15 = .ok (.iconst 1, 1) := by decide +kernel
theorem dX11_pile_16 : decode cX11_pile 16 = .ok (.iadd, 1) := by decide +kernel
theorem dX11_pile_17 : decode cX11_pile 17 = .ok (.putfield 290, 3) := by decide +kernel
theorem dX11_pile_20 : decode cX11_pile 20 = .ok (.return_, 1) := by decide +kernel
theorem dX11_e_0 : decode cX11_e 0 = .ok (.aload_n 0, 1) := by decide +kernel
theorem dX11_e_1 : decode cX11_e 1 = .ok (.iconst 0, 1) := by decide +kernel
theorem dX11_e_2 : decode cX11_e 2 = .ok (.putfield 290, 3) := by decide +kernel
theorem dX11_e_5 : decode cX11_e 5 = .ok (.aload_n 0, 1) := by decide +kernel
theorem dX11_e_6 : decode cX11_e 6 = .ok (.iconst 0, 1) := by decide +kernel
theorem dX11_e_7 : decode cX11_e 7 = .ok (.putfield 293, 3) := by decide +kernel
theorem dX11_e_10 : decode cX11_e 10 = .ok (.aload_n 0, 1) := by decide +kernel
theorem dX11_e_11 : decode cX11_e 11 = .ok (.iconst 5, 1) := by decide +kernel
theorem dX11_e_12 : decode cX11_e 12 = .ok (.invokevirtual 296, 3) := by decide +kernel
theorem dX11_e_15 : decode cX11_e 15 = .ok (.iconst 1, 1) := by decide +kernel
theorem dX11_e_16 : decode cX11_e 16 = .ok (.istore_n 1, 1) := by decide +kernel
theorem dX11_e_17 : decode cX11_e 17 = .ok (.aload_n 0, 1) := by decide +kernel
theorem dX11_e_18 : decode cX11_e 18 = .ok (.invokevirtual 224, 3) := by decide +kernel
theorem dX11_e_21 : decode cX11_e 21 = .ok (.ifCond .eq 29, 3) := by decide +kernel
theorem dX11_e_24 : decode cX11_e 24 = .ok (.aload_n 0, 1) := by decide +kernel
theorem dX11_e_25 : decode cX11_e 25 = .ok (.getfield 290, 3) := by decide +kernel
theorem dX11_e_28 : decode cX11_e 28 = .ok (.ifCond .le 22, 3) := by decide +kernel
theorem dX11_e_31 : decode cX11_e 31 = .ok (.iload_n 1, 1) := by decide +kernel
theorem dX11_e_32 : decode cX11_e 32 = .ok (.ifCond .eq 10, 3) := by decide +kernel
theorem dX11_e_35 : decode cX11_e 35 = .ok (.aload_n 0, 1) := by decide +kernel
theorem dX11_e_36 : decode cX11_e 36 = .ok (.invokevirtual 300, 3) := by decide +kernel
theorem dX11_e_39 : decode cX11_e 39 = .ok (.goto 7, 3) := by decide +kernel
theorem dX11_e_42 : decode cX11_e 42 = .ok (.aload_n 0, 1) := by decide +kernel
theorem dX11_e_43 : decode cX11_e 43 = .ok (.invokevirtual 303, 3) := by decide +kernel
theorem dX11_e_46 : decode cX11_e 46 = .ok (.istore_n 1, 1) := by decide +kernel
theorem dX11_e_47 : decode cX11_e 47 = .ok (.goto (-30), 3) := by decide +kernel
theorem dX11_e_50 : decode cX11_e 50 = .ok (.return_, 1) := by decide +kernel
theorem dX11_one_0 : decode cX11_one 0 = .ok (.aload_n 0, 1) := by decide +kernel
theorem dX11_one_1 : decode cX11_one 1 = .ok (.bipush 40, 2) := by decide +kernel
theorem dX11_one_3 : decode cX11_one 3 = .ok (.invokevirtual 287, 3) := by decide +kernel
theorem dX11_one_6 : decode cX11_one 6 = .ok (.ifCond .ne 13, 3) := by decide +kernel
theorem dX11_one_9 : decode cX11_one 9 = .ok (.aload_n 0, 1) := by decide +kernel
theorem dX11_one_10 : decode cX11_one 10 = .ok (.ldc2_w 306, 3) := by decide +kernel
theorem dX11_one_13 : decode cX11_one 13 = .ok (.invokevirtual 236, 3) := by decide +kernel
theorem dX11_one_16 : decode cX11_one 16 = .ok (.ifCond .eq 50, 3) := by decide +kernel
theorem dX11_one_19 : decode cX11_one 19 = .ok (.aload_n 0, 1) := by decide +kernel
theorem dX11_one_20 : decode cX11_one 20 = .ok (.aload_n 0, 1) := by decide +kernel
theorem dX11_one_21 : decode cX11_one 21 = .ok (.bipush 40, 2) := by decide +kernel
theorem dX11_one_23 : decode cX11_one 23 = .ok (.invokevirtual 287, 3) := by decide +kernel
theorem dX11_one_26 : decode cX11_one 26 = .ok (.ifCond .eq 7, 3) := by decide +kernel
theorem dX11_one_29 : decode cX11_one 29 = .ok (.iconst 4, 1) := by decide +kernel
theorem dX11_one_30 : decode cX11_one 30 = .ok (.goto 4, 3) := by decide +kernel
theorem dX11_one_33 : decode cX11_one 33 = .ok (.iconst 3, 1) := by decide +kernel
theorem dX11_one_34 : decode cX11_one 34 = .ok (.invokevirtual 296, 3) := by decide +kernel
theorem dX11_one_37 : decode cX11_one 37 = .ok (.aload_n 0, 1) := by decide +kernel
theorem dX11_one_38 : decode cX11_one 38 = .ok (.invokevirtual 228, 3) := by decide +kernel
theorem dX11_one_41 : decode cX11_one 41 = .ok (.aload_n 0, 1) := by decide +kernel
theorem dX11_one_42 : decode cX11_one 42 = .ok (.dup, 1) := by decide +kernel
theorem dX11_one_43 : decode cX11_one 43 = .ok (.getfield 293, 3) := by decide +kernel
theorem dX11_one_46 : decode cX11_one 46 = .ok (.iconst 1, 1) := by decide +kernel
theorem dX11_one_47 : decode cX11_one 47 = .ok (.iadd, 1) := by decide +kernel
theorem dX11_one_48 : decode cX11_one 48 = .ok (.putfield 293, 3) := by decide +kernel
theorem dX11_one_51 : decode cX11_one 51 = .ok (.aload_n 0, 1) := by decide +kernel
theorem dX11_one_52 : decode cX11_one 52 = .ok (.getfield 293, 3) := by decide +kernel
theorem dX11_one_55 : decode cX11_one 55 = .ok (.bipush 8, 2) := by decide +kernel
theorem dX11_one_57 : decode cX11_one 57 = .ok (.if_icmp .lt 7, 3) := by decide +kernel
theorem dX11_one_60 : decode cX11_one 60 = .ok (.aload_n 0, 1) := by decide +kernel
theorem dX11_one_61 : decode cX11_one 61 = .ok (.invokevirtual 231, 3) := by decide +kernel
theorem dX11_one_64 : decode cX11_one 64 = .ok (.iconst 1, 1) := by decide +kernel
theorem dX11_one_65 : decode cX11_one 65 = .ok (.ireturn, 1) := by decide +kernel
theorem dX11_one_66 : decode cX11_one 66 = .ok (.aload_n 0, 1) := by decide +kernel
theorem dX11_one_67 : decode cX11_one 67 = .ok (.invokevirtual 308, 3) := by decide +kernel
theorem dX11_one_70 : decode cX11_one 70 = .ok (.aload_n 0, 1) := by decide +kernel
theorem dX11_one_71 : decode cX11_one 71 = .ok (.invokevirtual 224, 3) := by decide +kernel
theorem dX11_one_74 : decode cX11_one 74 = .ok (.ifCond .eq 34, 3) := by decide +kernel
theorem dX11_one_77 : decode cX11_one 77 = .ok (.aload_n 0, 1) := by decide +kernel
theorem dX11_one_78 : decode cX11_one 78 = .ok (.bipush 60, 2) := by decide +kernel
theorem dX11_one_80 : decode cX11_one 80 = .ok (.invokevirtual 287, 3) := by decide +kernel
theorem dX11_one_83 : decode cX11_one 83 = .ok (.ifCond .ne 25, 3) := by decide +kernel
theorem dX11_one_86 : decode cX11_one 86 = .ok (.aload_n 0, 1) := by decide +kernel
theorem dX11_one_87 : decode cX11_one 87 = .ok (.bipush 62, 2) := by decide +kernel
theorem dX11_one_89 : decode cX11_one 89 = .ok (.invokevirtual 287, 3) := by decide +kernel
theorem dX11_one_92 : decode cX11_one 92 = .ok (.ifCond .ne 16, 3) := by decide +kernel
theorem dX11_one_95 : decode cX11_one 95 = .ok (.aload_n 0, 1) := by decide +kernel
theorem dX11_one_96 : decode cX11_one 96 = .ok (.bipush 61, 2) := by decide +kernel
theorem dX11_one_98 : decode cX11_one 98 = .ok (.invokevirtual 287, 3) := by decide +kernel
theorem dX11_one_101 : decode cX11_one 101 = .ok (.ifCond .ne 7, 3) := by decide +kernel
theorem dX11_one_104 : decode cX11_one 104 = .ok (.aload_n 0, 1) := by decide +kernel
theorem dX11_one_105 : decode cX11_one 105 = .ok (.invokevirtual 231, 3) := by decide +kernel
theorem dX11_one_108 : decode cX11_one 108 = .ok (.aload_n 0, 1) := by decide +kernel
theorem dX11_one_109 : decode cX11_one 109 = .ok (.invokevirtual 224, 3) := by decide +kernel
theorem dX11_one_112 : decode cX11_one 112 = .ok (.ifCond .ne 5, 3) := by decide +kernel
theorem dX11_one_115 : decode cX11_one 115 = .ok (.iconst 1, 1) := by decide +kernel
theorem dX11_one_116 : decode cX11_one 116 = .ok (.ireturn, 1) := by decide +kernel
theorem dX11_one_117 : decode cX11_one 117 = .ok (.aload_n 0, 1) := by decide +kernel
theorem dX11_one_118 : decode cX11_one 118 = .ok (.aload_n 0, 1) := by decide +kernel
theorem dX11_one_119 : decode cX11_one 119 = .ok (.getfield 198, 3) := by decide +kernel
theorem dX11_one_122 : decode cX11_one 122 = .ok (.invokevirtual 201, 3) := by decide +kernel
theorem dX11_one_125 : decode cX11_one 125 = .ok (.istore_n 1, 1) := by decide +kernel
theorem dX11_one_126 : decode cX11_one 126 = .ok (.aload_n 0, 1) := by decide +kernel
theorem dX11_one_127 : decode cX11_one 127 = .ok (.invokevirtual 228, 3) := by decide +kernel
theorem dX11_one_130 : decode cX11_one 130 = .ok (.aload_n 0, 1) := by decide +kernel
theorem dX11_one_131 : decode cX11_one 131 = .ok (.invokevirtual 308, 3) := by decide +kernel
theorem dX11_one_134 : decode cX11_one 134 = .ok (.aload_n 0, 1) := by decide +kernel
theorem dX11_one_135 : decode cX11_one 135 = .ok (.invokevirtual 224, 3) := by decide +kernel
theorem dX11_one_138 : decode cX11_one 138 = .ok (.ifCond .eq 10, 3) := by decide +kernel
theorem dX11_one_141 : decode cX11_one 141 = .ok (.aload_n 0, 1) := by decide +kernel
theorem dX11_one_142 : decode cX11_one 142 = .ok (.iload_n 1, 1) := by decide +kernel
theorem dX11_one_143 : decode cX11_one 143 = .ok (.iconst 0, 1) := by decide +kernel
theorem dX11_one_144 : decode cX11_one 144 = .ok (.iconst 0, 1) := by decide +kernel
theorem dX11_one_145 : decode cX11_one 145 = .ok (.invokevirtual 311, 3) := by decide +kernel
theorem dX11_one_148 : decode cX11_one 148 = .ok (.iconst 0, 1) := by decide +kernel
theorem dX11_one_149 : decode cX11_one 149 = .ok (.ireturn, 1) := by decide +kernel
theorem dX11_readSum_0 : decode cX11_readSum 0 = .ok (.aload_n 0, 1) := by decide +kernel
theorem dX11_readSum_1 : decode cX11_readSum 1 = .ok (.invokevirtual 315, 3) := by decide +kernel
theorem dX11_readSum_4 : decode cX11_readSum 4 = .ok (.aload_n 0, 1) := by decide +kernel
theorem dX11_readSum_5 : decode cX11_readSum 5 = .ok (.invokevirtual 224, 3) := by decide +kernel
theorem dX11_readSum_8 : decode cX11_readSum 8 = .ok (.ifCond .eq 55, 3) := by decide +kernel
theorem dX11_readSum_11 : decode cX11_readSum 11 = .ok (.aload_n 0, 1) := by decide +kernel
theorem dX11_readSum_12 : decode cX11_readSum 12 = .ok (.bipush 43, 2) := by decide +kernel
theorem dX11_readSum_14 : decode cX11_readSum 14 = .ok (.invokevirtual 287, 3) := by decide +kernel
theorem dX11_readSum_17 : decode cX11_readSum 17 = .ok (.ifCond .ne 12, 3) := by decide +kernel
theorem dX11_readSum_20 : decode cX11_readSum 20 = .ok (.aload_n 0, 1) := by decide +kernel
theorem dX11_readSum_21 : decode cX11_readSum 21 = .ok (.bipush 45, 2) := by decide +kernel
theorem dX11_readSum_23 : decode cX11_readSum 23 = .ok (.invokevirtual 287, 3) := by decide +kernel
theorem dX11_readSum_26 : decode cX11_readSum 26 = .ok (.ifCond .eq 37, 3) := by decide +kernel
theorem dX11_readSum_29 : decode cX11_readSum 29 = .ok (.aload_n 0, 1) := by decide +kernel
theorem dX11_readSum_30 : decode cX11_readSum 30 = .ok (.aload_n 0, 1) := by decide +kernel
theorem dX11_readSum_31 : decode cX11_readSum 31 = .ok (.getfield 198, 3) := by decide +kernel
theorem dX11_readSum_34 : decode cX11_readSum 34 = .ok (.invokevirtual 201, 3) := by decide +kernel
theorem dX11_readSum_37 : decode cX11_readSum 37 = .ok (.istore_n 1, 1) := by decide +kernel
theorem dX11_readSum_38 : decode cX11_readSum 38 = .ok (.aload_n 0, 1) := by decide +kernel
theorem dX11_readSum_39 : decode cX11_readSum 39 = .ok (.invokevirtual 228, 3) := by decide +kernel
theorem dX11_readSum_42 : decode cX11_readSum 42 = .ok (.aload_n 0, 1) := by decide +kernel
theorem dX11_readSum_43 : decode cX11_readSum 43 = .ok (.invokevirtual 315, 3) := by decide +kernel
theorem dX11_readSum_46 : decode cX11_readSum 46 = .ok (.aload_n 0, 1) := by decide +kernel
theorem dX11_readSum_47 : decode cX11_readSum 47 = .ok (.invokevirtual 224, 3) := by decide +kernel
theorem dX11_readSum_50 : decode cX11_readSum 50 = .ok (.ifCond .eq 10, 3) := by decide +kernel
theorem dX11_readSum_53 : decode cX11_readSum 53 = .ok (.aload_n 0, 1) := by decide +kernel
theorem dX11_readSum_54 : decode cX11_readSum 54 = .ok (.iload_n 1, 1) := by decide +kernel
theorem dX11_readSum_55 : decode cX11_readSum 55 = .ok (.iconst 0, 1) := by decide +kernel
theorem dX11_readSum_56 : decode cX11_readSum 56 = .ok (.iconst 0, 1) := by decide +kernel
theorem dX11_readSum_57 : decode cX11_readSum 57 = .ok (.invokevirtual 311, 3) := by decide +kernel
theorem dX11_readSum_60 : decode cX11_readSum 60 = .ok (.goto (-56), 3) := by decide +kernel
theorem dX11_readSum_63 : decode cX11_readSum 63 = .ok (.return_, 1) := by decide +kernel
theorem dX11_term_0 : decode cX11_term 0 = .ok (.aload_n 0, 1) := by decide +kernel
theorem dX11_term_1 : decode cX11_term 1 = .ok (.ldc2_w 318, 3) := by decide +kernel
theorem dX11_term_4 : decode cX11_term 4 = .ok (.invokevirtual 236, 3) := by decide +kernel
theorem dX11_term_7 : decode cX11_term 7 = .ok (.ifCond .ne 13, 3) := by decide +kernel
theorem dX11_term_10 : decode cX11_term 10 = .ok (.aload_n 0, 1) := by decide +kernel
theorem dX11_term_11 : decode cX11_term 11 = .ok (.ldc2_w 320, 3) := by decide +kernel
theorem dX11_term_14 : decode cX11_term 14 = .ok (.invokevirtual 236, 3) := by decide +kernel
theorem dX11_term_17 : decode cX11_term 17 = .ok (.ifCond .eq 7, 3) := by decide +kernel
theorem dX11_term_20 : decode cX11_term 20 = .ok (.iconst 1, 1) := by decide +kernel
theorem dX11_term_21 : decode cX11_term 21 = .ok (.goto 4, 3) := by decide +kernel
theorem dX11_term_24 : decode cX11_term 24 = .ok (.iconst 0, 1) := by decide +kernel
theorem dX11_term_25 : decode cX11_term 25 = .ok (.istore_n 1, 1) := by decide +kernel
theorem dX11_term_26 : decode cX11_term 26 = .ok (.aload_n 0, 1) := by decide +kernel
theorem dX11_term_27 : decode cX11_term 27 = .ok (.ldc2_w 322, 3) := by decide +kernel
theorem dX11_term_30 : decode cX11_term 30 = .ok (.invokevirtual 236, 3) := by decide +kernel
theorem dX11_term_33 : decode cX11_term 33 = .ok (.ifCond .ne 13, 3) := by decide +kernel
theorem dX11_term_36 : decode cX11_term 36 = .ok (.aload_n 0, 1) := by decide +kernel
theorem dX11_term_37 : decode cX11_term 37 = .ok (.ldc2_w 324, 3) := by decide +kernel
theorem dX11_term_40 : decode cX11_term 40 = .ok (.invokevirtual 236, 3) := by decide +kernel
theorem dX11_term_43 : decode cX11_term 43 = .ok (.ifCond .eq 7, 3) := by decide +kernel
theorem dX11_term_46 : decode cX11_term 46 = .ok (.iconst 1, 1) := by decide +kernel
theorem dX11_term_47 : decode cX11_term 47 = .ok (.goto 4, 3) := by decide +kernel
theorem dX11_term_50 : decode cX11_term 50 = .ok (.iconst 0, 1) := by decide +kernel
theorem dX11_term_51 : decode cX11_term 51 = .ok (.istore_n 2, 1) := by decide +kernel
theorem dX11_term_52 : decode cX11_term 52 = .ok (.aload_n 0, 1) := by decide +kernel
theorem dX11_term_53 : decode cX11_term 53 = .ok (.getfield 204, 3) := by decide +kernel
theorem dX11_term_56 : decode cX11_term 56 = .ok (.iconst 3, 1) := by decide +kernel
theorem dX11_term_57 : decode cX11_term 57 = .ok (.if_icmp .eq 21, 3) := by decide +kernel
theorem dX11_term_60 : decode cX11_term 60 = .ok (.aload_n 0, 1) := by decide +kernel
theorem dX11_term_61 : decode cX11_term 61 = .ok (.ldc2_w 326, 3) := by decide +kernel
theorem dX11_term_64 : decode cX11_term 64 = .ok (.invokevirtual 236, 3) := by decide +kernel
theorem dX11_term_67 : decode cX11_term 67 = .ok (.ifCond .ne 11, 3) := by decide +kernel
theorem dX11_term_70 : decode cX11_term 70 = .ok (.iload_n 2, 1) := by decide +kernel
theorem dX11_term_71 : decode cX11_term 71 = .ok (.ifCond .ne 7, 3) := by decide +kernel
theorem dX11_term_74 : decode cX11_term 74 = .ok (.iload_n 1, 1) := by decide +kernel
theorem dX11_term_75 : decode cX11_term 75 = .ok (.ifCond .eq 12, 3) := by decide +kernel
theorem dX11_term_78 : decode cX11_term 78 = .ok (.aload_n 0, 1) := by decide +kernel
theorem dX11_term_79 : decode cX11_term 79 = .ok (.getfield 264, 3) := by decide +kernel
theorem dX11_term_82 : decode cX11_term 82 = .ok (.bipush 80, 2) := by decide +kernel
theorem dX11_term_84 : decode cX11_term 84 = .ok (.if_icmp .ne 7, 3) := by decide +kernel
theorem dX11_term_87 : decode cX11_term 87 = .ok (.aload_n 0, 1) := by decide +kernel
theorem dX11_term_88 : decode cX11_term 88 = .ok (.invokevirtual 231, 3) := by decide +kernel
theorem dX11_term_91 : decode cX11_term 91 = .ok (.aload_n 0, 1) := by decide +kernel
theorem dX11_term_92 : decode cX11_term 92 = .ok (.invokevirtual 224, 3) := by decide +kernel
theorem dX11_term_95 : decode cX11_term 95 = .ok (.ifCond .ne 4, 3) := by decide +kernel
theorem dX11_term_98 : decode cX11_term 98 = .ok (.return_, 1) := by decide +kernel
theorem dX11_term_99 : decode cX11_term 99 = .ok (.aload_n 0, 1) := by decide +kernel
theorem dX11_term_100 : decode cX11_term 100 = .ok (.dup, 1) := by decide +kernel
theorem dX11_term_101 : decode cX11_term 101 = .ok (.getfield 264, 3) := by decide +kernel
theorem dX11_term_104 : decode cX11_term 104 = .ok (.iconst 1, 1) := by decide +kernel
theorem dX11_term_105 : decode cX11_term 105 = .ok (.iadd, 1) := by decide +kernel
theorem dX11_term_106 : decode cX11_term 106 = .ok (.putfield 264, 3) := by decide +kernel
theorem dX11_term_109 : decode cX11_term 109 = .ok (.aload_n 0, 1) := by decide +kernel
theorem dX11_term_110 : decode cX11_term 110 = .ok (.getfield 204, 3) := by decide +kernel
theorem dX11_term_113 : decode cX11_term 113 = .ok (.iconst 3, 1) := by decide +kernel
theorem dX11_term_114 : decode cX11_term 114 = .ok (.if_icmp .ne 8, 3) := by decide +kernel
theorem dX11_term_117 : decode cX11_term 117 = .ok (.bipush 110, 2) := by decide +kernel
theorem dX11_term_119 : decode cX11_term 119 = .ok (.goto 65, 3) := by decide +kernel
theorem dX11_term_122 : decode cX11_term 122 = .ok (.aload_n 0, 1) := by decide +kernel
theorem dX11_term_123 : decode cX11_term 123 = .ok (.ldc2_w 326, 3) := by decide +kernel
theorem dX11_term_126 : decode cX11_term 126 = .ok (.invokevirtual 236, 3) := by decide +kernel
theorem dX11_term_129 : decode cX11_term 129 = .ok (.ifCond .eq 8, 3) := by decide +kernel
theorem dX11_term_132 : decode cX11_term 132 = .ok (.bipush 109, 2) := by decide +kernel
theorem dX11_term_134 : decode cX11_term 134 = .ok (.goto 50, 3) := by decide +kernel
theorem dX11_term_137 : decode cX11_term 137 = .ok (.aload_n 0, 1) := by decide +kernel
theorem dX11_term_138 : decode cX11_term 138 = .ok (.ldc2_w 322, 3) := by decide +kernel
theorem dX11_term_141 : decode cX11_term 141 = .ok (.invokevirtual 236, 3) := by decide +kernel
theorem dX11_term_144 : decode cX11_term 144 = .ok (.ifCond .eq 8, 3) := by decide +kernel
theorem dX11_term_147 : decode cX11_term 147 = .ok (.bipush 112, 2) := by decide +kernel
theorem dX11_term_149 : decode cX11_term 149 = .ok (.goto 35, 3) := by decide +kernel
theorem dX11_term_152 : decode cX11_term 152 = .ok (.aload_n 0, 1) := by decide +kernel
theorem dX11_term_153 : decode cX11_term 153 = .ok (.ldc2_w 318, 3) := by decide +kernel
theorem dX11_term_156 : decode cX11_term 156 = .ok (.invokevirtual 236, 3) := by decide +kernel
theorem dX11_term_159 : decode cX11_term 159 = .ok (.ifCond .eq 8, 3) := by decide +kernel
theorem dX11_term_162 : decode cX11_term 162 = .ok (.bipush 115, 2) := by decide +kernel
theorem dX11_term_164 : decode cX11_term 164 = .ok (.goto 20, 3) := by decide +kernel
theorem dX11_term_167 : decode cX11_term 167 = .ok (.aload_n 0, 1) := by decide +kernel
theorem dX11_term_168 : decode cX11_term 168 = .ok (.ldc2_w 320, 3) := by decide +kernel
theorem dX11_term_171 : decode cX11_term 171 = .ok (.invokevirtual 236, 3) := by decide +kernel
theorem dX11_term_174 : decode cX11_term 174 = .ok (.ifCond .eq 8, 3) := by decide +kernel
theorem dX11_term_177 : decode cX11_term 177 = .ok (.bipush 111, 2) := by decide +kernel
theorem dX11_term_179 : decode cX11_term 179 = .ok (.goto 5, 3) := by decide +kernel
theorem dX11_term_182 : decode cX11_term 182 = .ok (.bipush 114, 2) := by decide +kernel
theorem dX11_term_184 : decode cX11_term 184 = .ok (.istore_n 3, 1) := by decide +kernel
theorem dX11_term_185 : decode cX11_term 185 = .ok (.aload_n 0, 1) := by decide +kernel
theorem dX11_term_186 : decode cX11_term 186 = .ok (.getfield 213, 3) := by decide +kernel
theorem dX11_term_189 : decode cX11_term 189 = .ok (.istore 4, 2) := by decide +kernel
theorem dX11_term_191 : decode cX11_term 191 = .ok (.aload_n 0, 1) := by decide +kernel
theorem dX11_term_192 : decode cX11_term 192 = .ok (.invokevirtual 228, 3) := by decide +kernel
theorem dX11_term_195 : decode cX11_term 195 = .ok (.iload_n 2, 1) := by decide +kernel
theorem dX11_term_196 : decode cX11_term 196 = .ok (.ifCond .ne 7, 3) := by decide +kernel
theorem dX11_term_199 : decode cX11_term 199 = .ok (.iload_n 1, 1) := by decide +kernel
theorem dX11_term_200 : decode cX11_term 200 = .ok (.ifCond .eq 10, 3) := by decide +kernel
theorem dX11_term_203 : decode cX11_term 203 = .ok (.aload_n 0, 1) := by decide +kernel
theorem dX11_term_204 : decode cX11_term 204 = .ok (.iconst 4, 1) := by decide +kernel
theorem dX11_term_205 : decode cX11_term 205 = .ok (.invokevirtual 277, 3) := by decide +kernel
theorem dX11_term_208 : decode cX11_term 208 = .ok (.istore 4, 2) := by decide +kernel
theorem dX11_term_210 : decode cX11_term 210 = .ok (.iload_n 1, 1) := by decide +kernel
theorem dX11_term_211 : decode cX11_term 211 = .ok (.ifCond .eq 10, 3) := by decide +kernel
theorem dX11_term_214 : decode cX11_term 214 = .ok (.aload_n 0, 1) := by decide +kernel
theorem dX11_term_215 : decode cX11_term 215 = .ok (.invokevirtual 280, 3) := by decide +kernel
theorem dX11_term_218 : decode cX11_term 218 = .ok (.goto 4, 3) := by decide +kernel
theorem dX11_term_221 : decode cX11_term 221 = .ok (.iconst (-1), 1) := by decide +kernel
theorem dX11_term_222 : decode cX11_term 222 = .ok (.istore 5, 2) := by decide +kernel
theorem dX11_term_224 : decode cX11_term 224 = .ok (.aload_n 0, 1) := by decide +kernel
theorem dX11_term_225 : decode cX11_term 225 = .ok (.invokevirtual 224, 3) := by decide +kernel
theorem dX11_term_228 : decode cX11_term 228 = .ok (.ifCond .eq 12, 3) := by decide +kernel
theorem dX11_term_231 : decode cX11_term 231 = .ok (.aload_n 0, 1) := by decide +kernel
theorem dX11_term_232 : decode cX11_term 232 = .ok (.iload_n 3, 1) := by decide +kernel
theorem dX11_term_233 : decode cX11_term 233 = .ok (.iload 4, 2) := by decide +kernel
theorem dX11_term_235 : decode cX11_term 235 = .ok (.iload 5, 2) := by decide +kernel
theorem dX11_term_237 : decode cX11_term 237 = .ok (.invokevirtual 311, 3) := by decide +kernel
theorem dX11_term_240 : decode cX11_term 240 = .ok (.return_, 1) := by decide +kernel
theorem dX11_behind_0 : decode cX11_behind 0 = .ok (.aload_n 0, 1) := by decide +kernel
theorem dX11_behind_1 : decode cX11_behind 1 = .ok (.ldc2_w 328, 3) := by decide +kernel
theorem dX11_behind_4 : decode cX11_behind 4 = .ok (.invokevirtual 236, 3) := by decide +kernel
theorem dX11_behind_7 : decode cX11_behind 7 = .ok (.ifCond .eq 7, 3) := by decide +kernel
theorem dX11_behind_10 : decode cX11_behind 10 = .ok (.iconst 2, 1) := by decide +kernel
theorem dX11_behind_11 : decode cX11_behind 11 = .ok (.goto 18, 3) := by decide +kernel
theorem dX11_behind_14 : decode cX11_behind 14 = .ok (.aload_n 0, 1) := by decide +kernel
theorem dX11_behind_15 : decode cX11_behind 15 = .ok (.ldc2_w 330, 3) := by decide +kernel
theorem dX11_behind_18 : decode cX11_behind 18 = .ok (.invokevirtual 236, 3) := by decide +kernel
theorem dX11_behind_21 : decode cX11_behind 21 = .ok (.ifCond .eq 7, 3) := by decide +kernel
theorem dX11_behind_24 : decode cX11_behind 24 = .ok (.iconst 1, 1) := by decide +kernel
theorem dX11_behind_25 : decode cX11_behind 25 = .ok (.goto 4, 3) := by decide +kernel
theorem dX11_behind_28 : decode cX11_behind 28 = .ok (.iconst 0, 1) := by decide +kernel
theorem dX11_behind_29 : decode cX11_behind 29 = .ok (.istore_n 1, 1) := by decide +kernel
theorem dX11_behind_30 : decode cX11_behind 30 = .ok (.aload_n 0, 1) := by decide +kernel
theorem dX11_behind_31 : decode cX11_behind 31 = .ok (.getfield 72, 3) := by decide +kernel
theorem dX11_behind_34 : decode cX11_behind 34 = .ok (.aload_n 0, 1) := by decide +kernel
theorem dX11_behind_35 : decode cX11_behind 35 = .ok (.getfield 290, 3) := by decide +kernel
theorem dX11_behind_38 : decode cX11_behind 38 = .ok (.iconst 1, 1) := by decide +kernel
theorem dX11_behind_39 : decode cX11_behind 39 = .ok (.isub, 1) := by decide +kernel
theorem dX11_behind_40 : decode cX11_behind 40 = .ok (.iaload, 1) := by decide +kernel
theorem dX11_behind_41 : decode cX11_behind 41 = .ok (.iconst 3, 1) := by decide +kernel
theorem dX11_behind_42 : decode cX11_behind 42 = .ok (.if_icmp .gt 98, 3) := by decide +kernel
theorem dX11_behind_45 : decode cX11_behind 45 = .ok (.aload_n 0, 1) := by decide +kernel
theorem dX11_behind_46 : decode cX11_behind 46 = .ok (.getfield 72, 3) := by decide +kernel
theorem dX11_behind_49 : decode cX11_behind 49 = .ok (.aload_n 0, 1) := by decide +kernel
theorem dX11_behind_50 : decode cX11_behind 50 = .ok (.getfield 290, 3) := by decide +kernel
theorem dX11_behind_53 : decode cX11_behind 53 = .ok (.iconst 1, 1) := by decide +kernel
theorem dX11_behind_54 : decode cX11_behind 54 = .ok (.isub, 1) := by decide +kernel
theorem dX11_behind_55 : decode cX11_behind 55 = .ok (.iaload, 1) := by decide +kernel
theorem dX11_behind_56 : decode cX11_behind 56 = .ok (.iload_n 1, 1) := by decide +kernel
theorem dX11_behind_57 : decode cX11_behind 57 = .ok (.if_icmp .lt 83, 3) := by decide +kernel
theorem dX11_behind_60 : decode cX11_behind 60 = .ok (.aload_n 0, 1) := by decide +kernel
theorem dX11_behind_61 : decode cX11_behind 61 = .ok (.dup, 1) := by decide +kernel
theorem dX11_behind_62 : decode cX11_behind 62 = .ok (.getfield 290, 3) := by decide +kernel
theorem dX11_behind_65 : decode cX11_behind 65 = .ok (.iconst 1, 1) := by decide +kernel
theorem dX11_behind_66 : decode cX11_behind 66 = .ok (.isub, 1) := by decide +kernel
theorem dX11_behind_67 : decode cX11_behind 67 = .ok (.putfield 290, 3) := by decide +kernel
theorem dX11_behind_70 : decode cX11_behind 70 = .ok (.aload_n 0, 1) := by decide +kernel
theorem dX11_behind_71 : decode cX11_behind 71 = .ok (.getfield 72, 3) := by decide +kernel
theorem dX11_behind_74 : decode cX11_behind 74 = .ok (.aload_n 0, 1) := by decide +kernel
theorem dX11_behind_75 : decode cX11_behind 75 = .ok (.getfield 290, 3) := by decide +kernel
theorem dX11_behind_78 : decode cX11_behind 78 = .ok (.iaload, 1) := by decide +kernel
theorem dX11_behind_79 : decode cX11_behind 79 = .ok (.iconst 3, 1) := by decide +kernel
theorem dX11_behind_80 : decode cX11_behind 80 = .ok (.if_icmp .ne 13, 3) := by decide +kernel
theorem dX11_behind_83 : decode cX11_behind 83 = .ok (.aload_n 0, 1) := by decide +kernel
theorem dX11_behind_84 : decode cX11_behind 84 = .ok (.dup, 1) := by decide +kernel
theorem dX11_behind_85 : decode cX11_behind 85 = .ok (.getfield 293, 3) := by decide +kernel
theorem dX11_behind_88 : decode cX11_behind 88 = .ok (.iconst 1, 1) := by decide +kernel
theorem dX11_behind_89 : decode cX11_behind 89 = .ok (.isub, 1) := by decide +kernel
end
section
theorem dX11_behind_90 : decode cX11_behind 90 = .ok (.putfield 293, 3) := by decide +kernel
theorem dX11_behind_93 : decode cX11_behind 93 = .ok (.aload_n 0, 1) := by decide +kernel
theorem dX11_behind_94 : decode cX11_behind 94 = .ok (.aload_n 0, 1) := by decide +kernel
theorem dX11_behind_95 : decode cX11_behind 95 = .ok (.getfield 72, 3) := by decide +kernel
theorem dX11_behind_98 : decode cX11_behind 98 = .ok (.aload_n 0, 1) := by decide +kernel
theorem dX11_behind_99 : decode cX11_behind 99 = .ok (.getfield 290, 3) := by decide +kernel
theorem dX11_behind_102 : decode cX11_behind 102 = .ok (.iaload, 1) := by decide +kernel
theorem dX11_behind_103 : decode cX11_behind 103 = .ok (.iconst 3, 1) := by decide +kernel
theorem dX11_behind_104 : decode cX11_behind 104 = .ok (.if_icmp .ne 8, 3) := by decide +kernel
theorem dX11_behind_107 : decode cX11_behind 107 = .ok (.bipush 126, 2) := by decide +kernel
theorem dX11_behind_109 : decode cX11_behind 109 = .ok (.goto 23, 3) := by decide +kernel
theorem dX11_behind_112 : decode cX11_behind 112 = .ok (.aload_n 0, 1) := by decide +kernel
theorem dX11_behind_113 : decode cX11_behind 113 = .ok (.getfield 72, 3) := by decide +kernel
theorem dX11_behind_116 : decode cX11_behind 116 = .ok (.aload_n 0, 1) := by decide +kernel
theorem dX11_behind_117 : decode cX11_behind 117 = .ok (.getfield 290, 3) := by decide +kernel
theorem dX11_behind_120 : decode cX11_behind 120 = .ok (.iaload, 1) := by decide +kernel
theorem dX11_behind_121 : decode cX11_behind 121 = .ok (.iconst 2, 1) := by decide +kernel
theorem dX11_behind_122 : decode cX11_behind 122 = .ok (.if_icmp .ne 8, 3) := by decide +kernel
theorem dX11_behind_125 : decode cX11_behind 125 = .ok (.bipush 38, 2) := by decide +kernel
theorem dX11_behind_127 : decode cX11_behind 127 = .ok (.goto 5, 3) := by decide +kernel
theorem dX11_behind_130 : decode cX11_behind 130 = .ok (.bipush 124, 2) := by decide +kernel
theorem dX11_behind_132 : decode cX11_behind 132 = .ok (.iconst 0, 1) := by decide +kernel
theorem dX11_behind_133 : decode cX11_behind 133 = .ok (.iconst 0, 1) := by decide +kernel
theorem dX11_behind_134 : decode cX11_behind 134 = .ok (.invokevirtual 311, 3) := by decide +kernel
theorem dX11_behind_137 : decode cX11_behind 137 = .ok (.goto (-107), 3) := by decide +kernel
theorem dX11_behind_140 : decode cX11_behind 140 = .ok (.iload_n 1, 1) := by decide +kernel
theorem dX11_behind_141 : decode cX11_behind 141 = .ok (.ifCond .le 14, 3) := by decide +kernel
theorem dX11_behind_144 : decode cX11_behind 144 = .ok (.aload_n 0, 1) := by decide +kernel
theorem dX11_behind_145 : decode cX11_behind 145 = .ok (.iload_n 1, 1) := by decide +kernel
theorem dX11_behind_146 : decode cX11_behind 146 = .ok (.invokevirtual 296, 3) := by decide +kernel
theorem dX11_behind_149 : decode cX11_behind 149 = .ok (.aload_n 0, 1) := by decide +kernel
theorem dX11_behind_150 : decode cX11_behind 150 = .ok (.invokevirtual 228, 3) := by decide +kernel
theorem dX11_behind_153 : decode cX11_behind 153 = .ok (.iconst 1, 1) := by decide +kernel
theorem dX11_behind_154 : decode cX11_behind 154 = .ok (.ireturn, 1) := by decide +kernel
theorem dX11_behind_155 : decode cX11_behind 155 = .ok (.aload_n 0, 1) := by decide +kernel
theorem dX11_behind_156 : decode cX11_behind 156 = .ok (.dup, 1) := by decide +kernel
theorem dX11_behind_157 : decode cX11_behind 157 = .ok (.getfield 290, 3) := by decide +kernel
theorem dX11_behind_160 : decode cX11_behind 160 = .ok (.iconst 1, 1) := by decide +kernel
theorem dX11_behind_161 : decode cX11_behind 161 = .ok (.isub, 1) := by decide +kernel
theorem dX11_behind_162 : decode cX11_behind 162 = .ok (.putfield 290, 3) := by decide +kernel
theorem dX11_behind_165 : decode cX11_behind 165 = .ok (.aload_n 0, 1) := by decide +kernel
theorem dX11_behind_166 : decode cX11_behind 166 = .ok (.getfield 72, 3) := by decide +kernel
theorem dX11_behind_169 : decode cX11_behind 169 = .ok (.aload_n 0, 1) := by decide +kernel
theorem dX11_behind_170 : decode cX11_behind 170 = .ok (.getfield 290, 3) := by decide +kernel
theorem dX11_behind_173 : decode cX11_behind 173 = .ok (.iaload, 1) := by decide +kernel
theorem dX11_behind_174 : decode cX11_behind 174 = .ok (.iconst 4, 1) := by decide +kernel
theorem dX11_behind_175 : decode cX11_behind 175 = .ok (.if_icmp .ne 23, 3) := by decide +kernel
theorem dX11_behind_178 : decode cX11_behind 178 = .ok (.aload_n 0, 1) := by decide +kernel
theorem dX11_behind_179 : decode cX11_behind 179 = .ok (.dup, 1) := by decide +kernel
theorem dX11_behind_180 : decode cX11_behind 180 = .ok (.getfield 293, 3) := by decide +kernel
theorem dX11_behind_183 : decode cX11_behind 183 = .ok (.iconst 1, 1) := by decide +kernel
theorem dX11_behind_184 : decode cX11_behind 184 = .ok (.isub, 1) := by decide +kernel
theorem dX11_behind_185 : decode cX11_behind 185 = .ok (.putfield 293, 3) := by decide +kernel
theorem dX11_behind_188 : decode cX11_behind 188 = .ok (.aload_n 0, 1) := by decide +kernel
theorem dX11_behind_189 : decode cX11_behind 189 = .ok (.aload_n 0, 1) := by decide +kernel
theorem dX11_behind_190 : decode cX11_behind 190 = .ok (.bipush 41, 2) := by decide +kernel
theorem dX11_behind_192 : decode cX11_behind 192 = .ok (.invokevirtual 287, 3) := by decide +kernel
theorem dX11_behind_195 : decode cX11_behind 195 = .ok (.invokevirtual 248, 3) := by decide +kernel
theorem dX11_behind_198 : decode cX11_behind 198 = .ok (.iconst 0, 1) := by decide +kernel
theorem dX11_behind_199 : decode cX11_behind 199 = .ok (.ireturn, 1) := by decide +kernel
theorem dX11_fault_0 : decode cX11_fault 0 = .ok (.iload_n 1, 1) := by decide +kernel
theorem dX11_fault_1 : decode cX11_fault 1 = .ok (.ifCond .ne 10, 3) := by decide +kernel
theorem dX11_fault_4 : decode cX11_fault 4 = .ok (.aload_n 0, 1) := by decide +kernel
theorem dX11_fault_5 : decode cX11_fault 5 = .ok (.getfield 192, 3) := by decide +kernel
theorem dX11_fault_8 : decode cX11_fault 8 = .ok (.goto 16, 3) := by decide +kernel
theorem dX11_fault_11 : decode cX11_fault 11 = .ok (.iload_n 1, 1) := by decide +kernel
theorem dX11_fault_12 : decode cX11_fault 12 = .ok (.iconst 1, 1) := by decide +kernel
theorem dX11_fault_13 : decode cX11_fault 13 = .ok (.if_icmp .ne 10, 3) := by decide +kernel
theorem dX11_fault_16 : decode cX11_fault 16 = .ok (.aload_n 0, 1) := by decide +kernel
theorem dX11_fault_17 : decode cX11_fault 17 = .ok (.getfield 38, 3) := by decide +kernel
theorem dX11_fault_20 : decode cX11_fault 20 = .ok (.goto 4, 3) := by decide +kernel
theorem dX11_fault_23 : decode cX11_fault 23 = .ok (.iconst (-1), 1) := by decide +kernel
theorem dX11_fault_24 : decode cX11_fault 24 = .ok (.ireturn, 1) := by decide +kernel
theorem dX11_leaf_0 : decode cX11_leaf 0 = .ok (.iload_n 1, 1) := by decide +kernel
theorem dX11_leaf_1 : decode cX11_leaf 1 = .ok (.bipush 110, 2) := by decide +kernel
theorem dX11_leaf_3 : decode cX11_leaf 3 = .ok (.if_icmp .ne 5, 3) := by decide +kernel
theorem dX11_leaf_6 : decode cX11_leaf 6 = .ok (.iload_n 2, 1) := by decide +kernel
theorem dX11_leaf_7 : decode cX11_leaf 7 = .ok (.ireturn, 1) := by decide +kernel
theorem dX11_leaf_8 : decode cX11_leaf 8 = .ok (.iload_n 1, 1) := by decide +kernel
theorem dX11_leaf_9 : decode cX11_leaf 9 = .ok (.bipush 109, 2) := by decide +kernel
theorem dX11_leaf_11 : decode cX11_leaf 11 = .ok (.if_icmp .ne 8, 3) := by decide +kernel
theorem dX11_leaf_14 : decode cX11_leaf 14 = .ok (.aload_n 0, 1) := by decide +kernel
theorem dX11_leaf_15 : decode cX11_leaf 15 = .ok (.getfield 332, 3) := by decide +kernel
theorem dX11_leaf_18 : decode cX11_leaf 18 = .ok (.ireturn, 1) := by decide +kernel
theorem dX11_leaf_19 : decode cX11_leaf 19 = .ok (.aload_n 0, 1) := by decide +kernel
theorem dX11_leaf_20 : decode cX11_leaf 20 = .ok (.iload_n 2, 1) := by decide +kernel
theorem dX11_leaf_21 : decode cX11_leaf 21 = .ok (.invokevirtual 157, 3) := by decide +kernel
theorem dX11_leaf_24 : decode cX11_leaf 24 = .ok (.ifCond .ne 5, 3) := by decide +kernel
theorem dX11_leaf_27 : decode cX11_leaf 27 = .ok (.iconst 0, 1) := by decide +kernel
theorem dX11_leaf_28 : decode cX11_leaf 28 = .ok (.ireturn, 1) := by decide +kernel
theorem dX11_leaf_29 : decode cX11_leaf 29 = .ok (.iload_n 1, 1) := by decide +kernel
theorem dX11_leaf_30 : decode cX11_leaf 30 = .ok (.bipush 112, 2) := by decide +kernel
theorem dX11_leaf_32 : decode cX11_leaf 32 = .ok (.if_icmp .ne 12, 3) := by decide +kernel
theorem dX11_leaf_35 : decode cX11_leaf 35 = .ok (.aload_n 0, 1) := by decide +kernel
theorem dX11_leaf_36 : decode cX11_leaf 36 = .ok (.getfield 13, 3) := by decide +kernel
theorem dX11_leaf_39 : decode cX11_leaf 39 = .ok (.iload_n 2, 1) := by decide +kernel
theorem dX11_leaf_40 : decode cX11_leaf 40 = .ok (.iaload, 1) := by decide +kernel
theorem dX11_leaf_41 : decode cX11_leaf 41 = .ok (.goto 38, 3) := by decide +kernel
theorem dX11_leaf_44 : decode cX11_leaf 44 = .ok (.iload_n 1, 1) := by decide +kernel
theorem dX11_leaf_45 : decode cX11_leaf 45 = .ok (.bipush 115, 2) := by decide +kernel
theorem dX11_leaf_47 : decode cX11_leaf 47 = .ok (.if_icmp .ne 12, 3) := by decide +kernel
theorem dX11_leaf_50 : decode cX11_leaf 50 = .ok (.aload_n 0, 1) := by decide +kernel
theorem dX11_leaf_51 : decode cX11_leaf 51 = .ok (.iload_n 2, 1) := by decide +kernel
theorem dX11_leaf_52 : decode cX11_leaf 52 = .ok (.iload_n 3, 1) := by decide +kernel
theorem dX11_leaf_53 : decode cX11_leaf 53 = .ok (.invokevirtual 185, 3) := by decide +kernel
theorem dX11_leaf_56 : decode cX11_leaf 56 = .ok (.goto 23, 3) := by decide +kernel
theorem dX11_leaf_59 : decode cX11_leaf 59 = .ok (.iload_n 1, 1) := by decide +kernel
theorem dX11_leaf_60 : decode cX11_leaf 60 = .ok (.bipush 111, 2) := by decide +kernel
theorem dX11_leaf_62 : decode cX11_leaf 62 = .ok (.if_icmp .ne 12, 3) := by decide +kernel
theorem dX11_leaf_65 : decode cX11_leaf 65 = .ok (.aload_n 0, 1) := by decide +kernel
theorem dX11_leaf_66 : decode cX11_leaf 66 = .ok (.iload_n 2, 1) := by decide +kernel
theorem dX11_leaf_67 : decode cX11_leaf 67 = .ok (.iload_n 3, 1) := by decide +kernel
theorem dX11_leaf_68 : decode cX11_leaf 68 = .ok (.invokevirtual 335, 3) := by decide +kernel
theorem dX11_leaf_71 : decode cX11_leaf 71 = .ok (.goto 8, 3) := by decide +kernel
theorem dX11_leaf_74 : decode cX11_leaf 74 = .ok (.aload_n 0, 1) := by decide +kernel
theorem dX11_leaf_75 : decode cX11_leaf 75 = .ok (.iload_n 2, 1) := by decide +kernel
theorem dX11_leaf_76 : decode cX11_leaf 76 = .ok (.invokevirtual 172, 3) := by decide +kernel
theorem dX11_leaf_79 : decode cX11_leaf 79 = .ok (.ireturn, 1) := by decide +kernel
theorem dX11_two_0 : decode cX11_two 0 = .ok (.iload_n 0, 1) := by decide +kernel
theorem dX11_two_1 : decode cX11_two 1 = .ok (.lookupswitch 104 #[(38, 100), (43, 59), (45, 63), (60, 67), (61, 89), (62, 78)], 59) := by decide +kernel
theorem dX11_two_60 : decode cX11_two 60 = .ok (.iload_n 1, 1) := by decide +kernel
theorem dX11_two_61 : decode cX11_two 61 = .ok (.iload_n 2, 1) := by decide +kernel
theorem dX11_two_62 : decode cX11_two 62 = .ok (.iadd, 1) := by decide +kernel
theorem dX11_two_63 : decode cX11_two 63 = .ok (.ireturn, 1) := by decide +kernel
theorem dX11_two_64 : decode cX11_two 64 = .ok (.iload_n 1, 1) := by decide +kernel
theorem dX11_two_65 : decode cX11_two 65 = .ok (.iload_n 2, 1) := by decide +kernel
theorem dX11_two_66 : decode cX11_two 66 = .ok (.isub, 1) := by decide +kernel
theorem dX11_two_67 : decode cX11_two 67 = .ok (.ireturn, 1) := by decide +kernel
theorem dX11_two_68 : decode cX11_two 68 = .ok (.iload_n 1, 1) := by decide +kernel
theorem dX11_two_69 : decode cX11_two 69 = .ok (.iload_n 2, 1) := by decide +kernel
theorem dX11_two_70 : decode cX11_two 70 = .ok (.if_icmp .ge 7, 3) := by decide +kernel
theorem dX11_two_73 : decode cX11_two 73 = .ok (.iconst 1, 1) := by decide +kernel
theorem dX11_two_74 : decode cX11_two 74 = .ok (.goto 4, 3) := by decide +kernel
theorem dX11_two_77 : decode cX11_two 77 = .ok (.iconst 0, 1) := by decide +kernel
theorem dX11_two_78 : decode cX11_two 78 = .ok (.ireturn, 1) := by decide +kernel
theorem dX11_two_79 : decode cX11_two 79 = .ok (.iload_n 1, 1) := by decide +kernel
theorem dX11_two_80 : decode cX11_two 80 = .ok (.iload_n 2, 1) := by decide +kernel
theorem dX11_two_81 : decode cX11_two 81 = .ok (.if_icmp .le 7, 3) := by decide +kernel
theorem dX11_two_84 : decode cX11_two 84 = .ok (.iconst 1, 1) := by decide +kernel
theorem dX11_two_85 : decode cX11_two 85 = .ok (.goto 4, 3) := by decide +kernel
theorem dX11_two_88 : decode cX11_two 88 = .ok (.iconst 0, 1) := by decide +kernel
theorem dX11_two_89 : decode cX11_two 89 = .ok (.ireturn, 1) := by decide +kernel
theorem dX11_two_90 : decode cX11_two 90 = .ok (.iload_n 1, 1) := by decide +kernel
theorem dX11_two_91 : decode cX11_two 91 = .ok (.iload_n 2, 1) := by decide +kernel
theorem dX11_two_92 : decode cX11_two 92 = .ok (.if_icmp .ne 7, 3) := by decide +kernel
theorem dX11_two_95 : decode cX11_two 95 = .ok (.iconst 1, 1) := by decide +kernel
theorem dX11_two_96 : decode cX11_two 96 = .ok (.goto 4, 3) := by decide +kernel
theorem dX11_two_99 : decode cX11_two 99 = .ok (.iconst 0, 1) := by decide +kernel
theorem dX11_two_100 : decode cX11_two 100 = .ok (.ireturn, 1) := by decide +kernel
theorem dX11_two_101 : decode cX11_two 101 = .ok (.iload_n 1, 1) := by decide +kernel
theorem dX11_two_102 : decode cX11_two 102 = .ok (.iload_n 2, 1) := by decide +kernel
theorem dX11_two_103 : decode cX11_two 103 = .ok (.iand, 1) := by decide +kernel
theorem dX11_two_104 : decode cX11_two 104 = .ok (.ireturn, 1) := by decide +kernel
theorem dX11_two_105 : decode cX11_two 105 = .ok (.iload_n 1, 1) := by decide +kernel
theorem dX11_two_106 : decode cX11_two 106 = .ok (.iload_n 2, 1) := by decide +kernel
theorem dX11_two_107 : decode cX11_two 107 = .ok (.ior, 1) := by decide +kernel
theorem dX11_two_108 : decode cX11_two 108 = .ok (.ireturn, 1) := by decide +kernel
theorem dX11_holds_0 : decode cX11_holds 0 = .ok (.iconst 0, 1) := by decide +kernel
theorem dX11_holds_1 : decode cX11_holds 1 = .ok (.istore_n 2, 1) := by decide +kernel
theorem dX11_holds_2 : decode cX11_holds 2 = .ok (.sipush 1000, 3) := by decide +kernel
theorem dX11_holds_5 : decode cX11_holds 5 = .ok (.aload_n 0, 1) := by decide +kernel
theorem dX11_holds_6 : decode cX11_holds 6 = .ok (.getfield 255, 3) := by decide +kernel
theorem dX11_holds_9 : decode cX11_holds 9 = .ok (.imul, 1) := by decide +kernel
theorem dX11_holds_10 : decode cX11_holds 10 = .ok (.aload_n 0, 1) := by decide +kernel
theorem dX11_holds_11 : decode cX11_holds 11 = .ok (.getfield 45, 3) := by decide +kernel
theorem dX11_holds_14 : decode cX11_holds 14 = .ok (.iload_n 1, 1) := by decide +kernel
theorem dX11_holds_15 : decode cX11_holds 15 = .ok (.iaload, 1) := by decide +kernel
theorem dX11_holds_16 : decode cX11_holds 16 = .ok (.iadd, 1) := by decide +kernel
theorem dX11_holds_17 : decode cX11_holds 17 = .ok (.istore_n 3, 1) := by decide +kernel
theorem dX11_holds_18 : decode cX11_holds 18 = .ok (.iload_n 3, 1) := by decide +kernel
theorem dX11_holds_19 : decode cX11_holds 19 = .ok (.sipush 1000, 3) := by decide +kernel
theorem dX11_holds_22 : decode cX11_holds 22 = .ok (.aload_n 0, 1) := by decide +kernel
theorem dX11_holds_23 : decode cX11_holds 23 = .ok (.getfield 255, 3) := by decide +kernel
theorem dX11_holds_26 : decode cX11_holds 26 = .ok (.imul, 1) := by decide +kernel
theorem dX11_holds_27 : decode cX11_holds 27 = .ok (.aload_n 0, 1) := by decide +kernel
theorem dX11_holds_28 : decode cX11_holds 28 = .ok (.getfield 48, 3) := by decide +kernel
theorem dX11_holds_31 : decode cX11_holds 31 = .ok (.iload_n 1, 1) := by decide +kernel
theorem dX11_holds_32 : decode cX11_holds 32 = .ok (.iaload, 1) := by decide +kernel
theorem dX11_holds_33 : decode cX11_holds 33 = .ok (.iadd, 1) := by decide +kernel
theorem dX11_holds_34 : decode cX11_holds 34 = .ok (.if_icmp .ge 113, 3) := by decide +kernel
theorem dX11_holds_37 : decode cX11_holds 37 = .ok (.aload_n 0, 1) := by decide +kernel
theorem dX11_holds_38 : decode cX11_holds 38 = .ok (.getfield 63, 3) := by decide +kernel
theorem dX11_holds_41 : decode cX11_holds 41 = .ok (.iload_n 3, 1) := by decide +kernel
theorem dX11_holds_42 : decode cX11_holds 42 = .ok (.iaload, 1) := by decide +kernel
theorem dX11_holds_43 : decode cX11_holds 43 = .ok (.istore 4, 2) := by decide +kernel
theorem dX11_holds_45 : decode cX11_holds 45 = .ok (.iload 4, 2) := by decide +kernel
theorem dX11_holds_47 : decode cX11_holds 47 = .ok (.bipush 126, 2) := by decide +kernel
theorem dX11_holds_49 : decode cX11_holds 49 = .ok (.if_icmp .ne 24, 3) := by decide +kernel
theorem dX11_holds_52 : decode cX11_holds 52 = .ok (.aload_n 0, 1) := by decide +kernel
theorem dX11_holds_53 : decode cX11_holds 53 = .ok (.getfield 75, 3) := by decide +kernel
theorem dX11_holds_56 : decode cX11_holds 56 = .ok (.iload_n 2, 1) := by decide +kernel
theorem dX11_holds_57 : decode cX11_holds 57 = .ok (.iconst 1, 1) := by decide +kernel
theorem dX11_holds_58 : decode cX11_holds 58 = .ok (.isub, 1) := by decide +kernel
theorem dX11_holds_59 : decode cX11_holds 59 = .ok (.iconst 1, 1) := by decide +kernel
theorem dX11_holds_60 : decode cX11_holds 60 = .ok (.aload_n 0, 1) := by decide +kernel
theorem dX11_holds_61 : decode cX11_holds 61 = .ok (.getfield 75, 3) := by decide +kernel
theorem dX11_holds_64 : decode cX11_holds 64 = .ok (.iload_n 2, 1) := by decide +kernel
theorem dX11_holds_65 : decode cX11_holds 65 = .ok (.iconst 1, 1) := by decide +kernel
theorem dX11_holds_66 : decode cX11_holds 66 = .ok (.isub, 1) := by decide +kernel
theorem dX11_holds_67 : decode cX11_holds 67 = .ok (.iaload, 1) := by decide +kernel
theorem dX11_holds_68 : decode cX11_holds 68 = .ok (.isub, 1) := by decide +kernel
theorem dX11_holds_69 : decode cX11_holds 69 = .ok (.iastore, 1) := by decide +kernel
theorem dX11_holds_70 : decode cX11_holds 70 = .ok (.goto 71, 3) := by decide +kernel
theorem dX11_holds_73 : decode cX11_holds 73 = .ok (.iload 4, 2) := by decide +kernel
theorem dX11_holds_75 : decode cX11_holds 75 = .ok (.invokestatic 207, 3) := by decide +kernel
theorem dX11_holds_78 : decode cX11_holds 78 = .ok (.ifCond .eq 33, 3) := by decide +kernel
theorem dX11_holds_81 : decode cX11_holds 81 = .ok (.aload_n 0, 1) := by decide +kernel
theorem dX11_holds_82 : decode cX11_holds 82 = .ok (.getfield 75, 3) := by decide +kernel
theorem dX11_holds_85 : decode cX11_holds 85 = .ok (.iload_n 2, 1) := by decide +kernel
theorem dX11_holds_86 : decode cX11_holds 86 = .ok (.aload_n 0, 1) := by decide +kernel
theorem dX11_holds_87 : decode cX11_holds 87 = .ok (.iload 4, 2) := by decide +kernel
theorem dX11_holds_89 : decode cX11_holds 89 = .ok (.aload_n 0, 1) := by decide +kernel
theorem dX11_holds_90 : decode cX11_holds 90 = .ok (.getfield 66, 3) := by decide +kernel
theorem dX11_holds_93 : decode cX11_holds 93 = .ok (.iload_n 3, 1) := by decide +kernel
theorem dX11_holds_94 : decode cX11_holds 94 = .ok (.iaload, 1) := by decide +kernel
theorem dX11_holds_95 : decode cX11_holds 95 = .ok (.aload_n 0, 1) := by decide +kernel
theorem dX11_holds_96 : decode cX11_holds 96 = .ok (.getfield 69, 3) := by decide +kernel
theorem dX11_holds_99 : decode cX11_holds 99 = .ok (.iload_n 3, 1) := by decide +kernel
theorem dX11_holds_100 : decode cX11_holds 100 = .ok (.iaload, 1) := by decide +kernel
theorem dX11_holds_101 : decode cX11_holds 101 = .ok (.invokevirtual 338, 3) := by decide +kernel
theorem dX11_holds_104 : decode cX11_holds 104 = .ok (.iastore, 1) := by decide +kernel
theorem dX11_holds_105 : decode cX11_holds 105 = .ok (.iinc 2 1, 3) := by decide +kernel
theorem dX11_holds_108 : decode cX11_holds 108 = .ok (.goto 33, 3) := by decide +kernel
theorem dX11_holds_111 : decode cX11_holds 111 = .ok (.iinc 2 (-1), 3) := by decide +kernel
theorem dX11_holds_114 : decode cX11_holds 114 = .ok (.aload_n 0, 1) := by decide +kernel
theorem dX11_holds_115 : decode cX11_holds 115 = .ok (.getfield 75, 3) := by decide +kernel
theorem dX11_holds_118 : decode cX11_holds 118 = .ok (.iload_n 2, 1) := by decide +kernel
theorem dX11_holds_119 : decode cX11_holds 119 = .ok (.iconst 1, 1) := by decide +kernel
theorem dX11_holds_120 : decode cX11_holds 120 = .ok (.isub, 1) := by decide +kernel
theorem dX11_holds_121 : decode cX11_holds 121 = .ok (.iload 4, 2) := by decide +kernel
theorem dX11_holds_123 : decode cX11_holds 123 = .ok (.aload_n 0, 1) := by decide +kernel
theorem dX11_holds_124 : decode cX11_holds 124 = .ok (.getfield 75, 3) := by decide +kernel
theorem dX11_holds_127 : decode cX11_holds 127 = .ok (.iload_n 2, 1) := by decide +kernel
theorem dX11_holds_128 : decode cX11_holds 128 = .ok (.iconst 1, 1) := by decide +kernel
theorem dX11_holds_129 : decode cX11_holds 129 = .ok (.isub, 1) := by decide +kernel
theorem dX11_holds_130 : decode cX11_holds 130 = .ok (.iaload, 1) := by decide +kernel
theorem dX11_holds_131 : decode cX11_holds 131 = .ok (.aload_n 0, 1) := by decide +kernel
theorem dX11_holds_132 : decode cX11_holds 132 = .ok (.getfield 75, 3) := by decide +kernel
theorem dX11_holds_135 : decode cX11_holds 135 = .ok (.iload_n 2, 1) := by decide +kernel
theorem dX11_holds_136 : decode cX11_holds 136 = .ok (.iaload, 1) := by decide +kernel
theorem dX11_holds_137 : decode cX11_holds 137 = .ok (.invokestatic 341, 3) := by decide +kernel
theorem dX11_holds_140 : decode cX11_holds 140 = .ok (.iastore, 1) := by decide +kernel
theorem dX11_holds_141 : decode cX11_holds 141 = .ok (.iinc 3 1, 3) := by decide +kernel
theorem dX11_holds_144 : decode cX11_holds 144 = .ok (.goto (-126), 3) := by decide +kernel
theorem dX11_holds_147 : decode cX11_holds 147 = .ok (.iload_n 2, 1) := by decide +kernel
theorem dX11_holds_148 : decode cX11_holds 148 = .ok (.ifCond .eq 12, 3) := by decide +kernel
theorem dX11_holds_151 : decode cX11_holds 151 = .ok (.aload_n 0, 1) := by decide +kernel
theorem dX11_holds_152 : decode cX11_holds 152 = .ok (.getfield 75, 3) := by decide +kernel
theorem dX11_holds_155 : decode cX11_holds 155 = .ok (.iconst 0, 1) := by decide +kernel
theorem dX11_holds_156 : decode cX11_holds 156 = .ok (.iaload, 1) := by decide +kernel
theorem dX11_holds_157 : decode cX11_holds 157 = .ok (.ifCond .eq 7, 3) := by decide +kernel
theorem dX11_holds_160 : decode cX11_holds 160 = .ok (.iconst 1, 1) := by decide +kernel
theorem dX11_holds_161 : decode cX11_holds 161 = .ok (.goto 4, 3) := by decide +kernel
theorem dX11_holds_164 : decode cX11_holds 164 = .ok (.iconst 0, 1) := by decide +kernel
theorem dX11_holds_165 : decode cX11_holds 165 = .ok (.ireturn, 1) := by decide +kernel
theorem dX11_monthsFor_0 : decode cX11_monthsFor 0 = .ok (.iload_n 0, 1) := by decide +kernel
theorem dX11_monthsFor_1 : decode cX11_monthsFor 1 = .ok (.bipush 29, 2) := by decide +kernel
theorem dX11_monthsFor_3 : decode cX11_monthsFor 3 = .ok (.iadd, 1) := by decide +kernel
theorem dX11_monthsFor_4 : decode cX11_monthsFor 4 = .ok (.bipush 30, 2) := by decide +kernel
theorem dX11_monthsFor_6 : decode cX11_monthsFor 6 = .ok (.idiv, 1) := by decide +kernel
theorem dX11_monthsFor_7 : decode cX11_monthsFor 7 = .ok (.ireturn, 1) := by decide +kernel
theorem dX11_arrive_0 : decode cX11_arrive 0 = .ok (.iconst 0, 1) := by decide +kernel
theorem dX11_arrive_1 : decode cX11_arrive 1 = .ok (.istore_n 1, 1) := by decide +kernel
theorem dX11_arrive_2 : decode cX11_arrive 2 = .ok (.iconst 0, 1) := by decide +kernel
theorem dX11_arrive_3 : decode cX11_arrive 3 = .ok (.istore_n 2, 1) := by decide +kernel
theorem dX11_arrive_4 : decode cX11_arrive 4 = .ok (.iload_n 2, 1) := by decide +kernel
theorem dX11_arrive_5 : decode cX11_arrive 5 = .ok (.aload_n 0, 1) := by decide +kernel
theorem dX11_arrive_6 : decode cX11_arrive 6 = .ok (.getfield 344, 3) := by decide +kernel
theorem dX11_arrive_9 : decode cX11_arrive 9 = .ok (.if_icmp .ge 170, 3) := by decide +kernel
theorem dX11_arrive_12 : decode cX11_arrive 12 = .ok (.aload_n 0, 1) := by decide +kernel
theorem dX11_arrive_13 : decode cX11_arrive 13 = .ok (.getfield 90, 3) := by decide +kernel
theorem dX11_arrive_16 : decode cX11_arrive 16 = .ok (.iload_n 2, 1) := by decide +kernel
theorem dX11_arrive_17 : decode cX11_arrive 17 = .ok (.iaload, 1) := by decide +kernel
theorem dX11_arrive_18 : decode cX11_arrive 18 = .ok (.aload_n 0, 1) := by decide +kernel
theorem dX11_arrive_19 : decode cX11_arrive 19 = .ok (.getfield 332, 3) := by decide +kernel
theorem dX11_arrive_22 : decode cX11_arrive 22 = .ok (.if_icmp .ne 88, 3) := by decide +kernel
theorem dX11_arrive_25 : decode cX11_arrive 25 = .ok (.aload_n 0, 1) := by decide +kernel
theorem dX11_arrive_26 : decode cX11_arrive 26 = .ok (.getfield 28, 3) := by decide +kernel
theorem dX11_arrive_29 : decode cX11_arrive 29 = .ok (.iconst 5, 1) := by decide +kernel
theorem dX11_arrive_30 : decode cX11_arrive 30 = .ok (.dup2, 1) := by decide +kernel
theorem dX11_arrive_31 : decode cX11_arrive 31 = .ok (.iaload, 1) := by decide +kernel
theorem dX11_arrive_32 : decode cX11_arrive 32 = .ok (.aload_n 0, 1) := by decide +kernel
theorem dX11_arrive_33 : decode cX11_arrive 33 = .ok (.getfield 87, 3) := by decide +kernel
theorem dX11_arrive_36 : decode cX11_arrive 36 = .ok (.iload_n 2, 1) := by decide +kernel
theorem dX11_arrive_37 : decode cX11_arrive 37 = .ok (.iaload, 1) := by decide +kernel
theorem dX11_arrive_38 : decode cX11_arrive 38 = .ok (.iadd, 1) := by decide +kernel
theorem dX11_arrive_39 : decode cX11_arrive 39 = .ok (.iastore, 1) := by decide +kernel
theorem dX11_arrive_40 : decode cX11_arrive 40 = .ok (.aload_n 0, 1) := by decide +kernel
theorem dX11_arrive_41 : decode cX11_arrive 41 = .ok (.getfield 84, 3) := by decide +kernel
theorem dX11_arrive_44 : decode cX11_arrive 44 = .ok (.iload_n 2, 1) := by decide +kernel
theorem dX11_arrive_45 : decode cX11_arrive 45 = .ok (.iaload, 1) := by decide +kernel
theorem dX11_arrive_46 : decode cX11_arrive 46 = .ok (.aload_n 0, 1) := by decide +kernel
theorem dX11_arrive_47 : decode cX11_arrive 47 = .ok (.getfield 22, 3) := by decide +kernel
theorem dX11_arrive_50 : decode cX11_arrive 50 = .ok (.aload_n 0, 1) := by decide +kernel
theorem dX11_arrive_51 : decode cX11_arrive 51 = .ok (.getfield 81, 3) := by decide +kernel
theorem dX11_arrive_54 : decode cX11_arrive 54 = .ok (.iload_n 2, 1) := by decide +kernel
theorem dX11_arrive_55 : decode cX11_arrive 55 = .ok (.iaload, 1) := by decide +kernel
theorem dX11_arrive_56 : decode cX11_arrive 56 = .ok (.iaload, 1) := by decide +kernel
theorem dX11_arrive_57 : decode cX11_arrive 57 = .ok (.if_icmp .le 21, 3) := by decide +kernel
theorem dX11_arrive_60 : decode cX11_arrive 60 = .ok (.aload_n 0, 1) := by decide +kernel
theorem dX11_arrive_61 : decode cX11_arrive 61 = .ok (.getfield 28, 3) := by decide +kernel
theorem dX11_arrive_64 : decode cX11_arrive 64 = .ok (.iconst 1, 1) := by decide +kernel
theorem dX11_arrive_65 : decode cX11_arrive 65 = .ok (.dup2, 1) := by decide +kernel
theorem dX11_arrive_66 : decode cX11_arrive 66 = .ok (.iaload, 1) := by decide +kernel
theorem dX11_arrive_67 : decode cX11_arrive 67 = .ok (.aload_n 0, 1) := by decide +kernel
theorem dX11_arrive_68 : decode cX11_arrive 68 = .ok (.getfield 87, 3) := by decide +kernel
theorem dX11_arrive_71 : decode cX11_arrive 71 = .ok (.iload_n 2, 1) := by decide +kernel
theorem dX11_arrive_72 : decode cX11_arrive 72 = .ok (.iaload, 1) := by decide +kernel
theorem dX11_arrive_73 : decode cX11_arrive 73 = .ok (.iadd, 1) := by decide +kernel
theorem dX11_arrive_74 : decode cX11_arrive 74 = .ok (.iastore, 1) := by decide +kernel
theorem dX11_arrive_75 : decode cX11_arrive 75 = .ok (.goto 98, 3) := by decide +kernel
theorem dX11_arrive_78 : decode cX11_arrive 78 = .ok (.aload_n 0, 1) := by decide +kernel
theorem dX11_arrive_79 : decode cX11_arrive 79 = .ok (.aload_n 0, 1) := by decide +kernel
theorem dX11_arrive_80 : decode cX11_arrive 80 = .ok (.getfield 78, 3) := by decide +kernel
theorem dX11_arrive_83 : decode cX11_arrive 83 = .ok (.iload_n 2, 1) := by decide +kernel
theorem dX11_arrive_84 : decode cX11_arrive 84 = .ok (.iaload, 1) := by decide +kernel
theorem dX11_arrive_85 : decode cX11_arrive 85 = .ok (.aload_n 0, 1) := by decide +kernel
theorem dX11_arrive_86 : decode cX11_arrive 86 = .ok (.getfield 81, 3) := by decide +kernel
theorem dX11_arrive_89 : decode cX11_arrive 89 = .ok (.iload_n 2, 1) := by decide +kernel
theorem dX11_arrive_90 : decode cX11_arrive 90 = .ok (.iaload, 1) := by decide +kernel
theorem dX11_arrive_91 : decode cX11_arrive 91 = .ok (.aload_n 0, 1) := by decide +kernel
theorem dX11_arrive_92 : decode cX11_arrive 92 = .ok (.getfield 84, 3) := by decide +kernel
theorem dX11_arrive_95 : decode cX11_arrive 95 = .ok (.iload_n 2, 1) := by decide +kernel
theorem dX11_arrive_96 : decode cX11_arrive 96 = .ok (.iaload, 1) := by decide +kernel
theorem dX11_arrive_97 : decode cX11_arrive 97 = .ok (.aload_n 0, 1) := by decide +kernel
theorem dX11_arrive_98 : decode cX11_arrive 98 = .ok (.getfield 87, 3) := by decide +kernel
theorem dX11_arrive_101 : decode cX11_arrive 101 = .ok (.iload_n 2, 1) := by decide +kernel
theorem dX11_arrive_102 : decode cX11_arrive 102 = .ok (.iaload, 1) := by decide +kernel
theorem dX11_arrive_103 : decode cX11_arrive 103 = .ok (.invokevirtual 178, 3) := by decide +kernel
theorem dX11_arrive_106 : decode cX11_arrive 106 = .ok (.pop, 1) := by decide +kernel
theorem dX11_arrive_107 : decode cX11_arrive 107 = .ok (.goto 66, 3) := by decide +kernel
theorem dX11_arrive_110 : decode cX11_arrive 110 = .ok (.aload_n 0, 1) := by decide +kernel
theorem dX11_arrive_111 : decode cX11_arrive 111 = .ok (.getfield 78, 3) := by decide +kernel
theorem dX11_arrive_114 : decode cX11_arrive 114 = .ok (.iload_n 1, 1) := by decide +kernel
theorem dX11_arrive_115 : decode cX11_arrive 115 = .ok (.aload_n 0, 1) := by decide +kernel
theorem dX11_arrive_116 : decode cX11_arrive 116 = .ok (.getfield 78, 3) := by decide +kernel
theorem dX11_arrive_119 : decode cX11_arrive 119 = .ok (.iload_n 2, 1) := by decide +kernel
theorem dX11_arrive_120 : decode cX11_arrive 120 = .ok (.iaload, 1) := by decide +kernel
theorem dX11_arrive_121 : decode cX11_arrive 121 = .ok (.iastore, 1) := by decide +kernel
theorem dX11_arrive_122 : decode cX11_arrive 122 = .ok (.aload_n 0, 1) := by decide +kernel
theorem dX11_arrive_123 : decode cX11_arrive 123 = .ok (.getfield 81, 3) := by decide +kernel
theorem dX11_arrive_126 : decode cX11_arrive 126 = .ok (.iload_n 1, 1) := by decide +kernel
theorem dX11_arrive_127 : decode cX11_arrive 127 = .ok (.aload_n 0, 1) := by decide +kernel
theorem dX11_arrive_128 : decode cX11_arrive 128 = .ok (.getfield 81, 3) := by decide +kernel
theorem dX11_arrive_131 : decode cX11_arrive 131 = .ok (.iload_n 2, 1) := by decide +kernel
theorem dX11_arrive_132 : decode cX11_arrive 132 = .ok (.iaload, 1) := by decide +kernel
theorem dX11_arrive_133 : decode cX11_arrive 133 = .ok (.iastore, 1) := by decide +kernel
theorem dX11_arrive_134 : decode cX11_arrive 134 = .ok (.aload_n 0, 1) := by decide +kernel
theorem dX11_arrive_135 : decode cX11_arrive 135 = .ok (.getfield 84, 3) := by decide +kernel
theorem dX11_arrive_138 : decode cX11_arrive 138 = .ok (.iload_n 1, 1) := by decide +kernel
theorem dX11_arrive_139 : decode cX11_arrive 139 = .ok (.aload_n 0, 1) := by decide +kernel
theorem dX11_arrive_140 : decode cX11_arrive 140 = .ok (.getfield 84, 3) := by decide +kernel
theorem dX11_arrive_143 : decode cX11_arrive 143 = .ok (.iload_n 2, 1) := by decide +kernel
theorem dX11_arrive_144 : decode cX11_arrive 144 = .ok (.iaload, 1) := by decide +kernel
theorem dX11_arrive_145 : decode cX11_arrive 145 = .ok (.iastore, 1) := by decide +kernel
theorem dX11_arrive_146 : decode cX11_arrive 146 = .ok (.aload_n 0, 1) := by decide +kernel
theorem dX11_arrive_147 : decode cX11_arrive 147 = .ok (.getfield 87, 3) := by decide +kernel
theorem dX11_arrive_150 : decode cX11_arrive 150 = .ok (.iload_n 1, 1) := by decide +kernel
theorem dX11_arrive_151 : decode cX11_arrive 151 = .ok (.aload_n 0, 1) := by decide +kernel
theorem dX11_arrive_152 : decode cX11_arrive 152 = .ok (.getfield 87, 3) := by decide +kernel
theorem dX11_arrive_155 : decode cX11_arrive 155 = .ok (.iload_n 2, 1) := by decide +kernel
theorem dX11_arrive_156 : decode cX11_arrive 156 = .ok (.iaload, 1) := by decide +kernel
theorem dX11_arrive_157 : decode cX11_arrive 157 = .ok (.iastore, 1) := by decide +kernel
theorem dX11_arrive_158 : decode cX11_arrive 158 = .ok (.aload_n 0, 1) := by decide +kernel
theorem dX11_arrive_159 : decode cX11_arrive 159 = .ok (.getfield 90, 3) := by decide +kernel
theorem dX11_arrive_162 : decode cX11_arrive 162 = .ok (.iload_n 1, 1) := by decide +kernel
theorem dX11_arrive_163 : decode cX11_arrive 163 = .ok (.aload_n 0, 1) := by decide +kernel
theorem dX11_arrive_164 : decode cX11_arrive 164 = .ok (.getfield 90, 3) := by decide +kernel
theorem dX11_arrive_167 : decode cX11_arrive 167 = .ok (.iload_n 2, 1) := by decide +kernel
theorem dX11_arrive_168 : decode cX11_arrive 168 = .ok (.iaload, 1) := by decide +kernel
theorem dX11_arrive_169 : decode cX11_arrive 169 = .ok (.iastore, 1) := by decide +kernel
theorem dX11_arrive_170 : decode cX11_arrive 170 = .ok (.iinc 1 1, 3) := by decide +kernel
theorem dX11_arrive_173 : decode cX11_arrive 173 = .ok (.iinc 2 1, 3) := by decide +kernel
theorem dX11_arrive_176 : decode cX11_arrive 176 = .ok (.goto (-172), 3) := by decide +kernel
theorem dX11_arrive_179 : decode cX11_arrive 179 = .ok (.aload_n 0, 1) := by decide +kernel
theorem dX11_arrive_180 : decode cX11_arrive 180 = .ok (.iload_n 1, 1) := by decide +kernel
theorem dX11_arrive_181 : decode cX11_arrive 181 = .ok (.putfield 344, 3) := by decide +kernel
theorem dX11_arrive_184 : decode cX11_arrive 184 = .ok (.return_, 1) := by decide +kernel
theorem dX11_age_0 : decode cX11_age 0 = .ok (.iconst 0, 1) := by decide +kernel
theorem dX11_age_1 : decode cX11_age 1 = .ok (.istore_n 1, 1) := by decide +kernel
theorem dX11_age_2 : decode cX11_age 2 = .ok (.iload_n 1, 1) := by decide +kernel
theorem dX11_age_3 : decode cX11_age 3 = .ok (.aload_n 0, 1) := by decide +kernel
theorem dX11_age_4 : decode cX11_age 4 = .ok (.getfield 344, 3) := by decide +kernel
theorem dX11_age_7 : decode cX11_age 7 = .ok (.if_icmp .ge 19, 3) := by decide +kernel
theorem dX11_age_10 : decode cX11_age 10 = .ok (.aload_n 0, 1) := by decide +kernel
theorem dX11_age_11 : decode cX11_age 11 = .ok (.getfield 84, 3) := by decide +kernel
theorem dX11_age_14 : decode cX11_age 14 = .ok (.iload_n 1, 1) := by decide +kernel
theorem dX11_age_15 : decode cX11_age 15 = .ok (.dup2, 1) := by decide +kernel
theorem dX11_age_16 : decode cX11_age 16 = .ok (.iaload, 1) := by decide +kernel
theorem dX11_age_17 : decode cX11_age 17 = .ok (.iconst 1, 1) := by decide +kernel
theorem dX11_age_18 : decode cX11_age 18 = .ok (.iadd, 1) := by decide +kernel
theorem dX11_age_19 : decode cX11_age 19 = .ok (.iastore, 1) := by decide +kernel
theorem dX11_age_20 : decode cX11_age 20 = .ok (.iinc 1 1, 3) := by decide +kernel
theorem dX11_age_23 : decode cX11_age 23 = .ok (.goto (-21), 3) := by decide +kernel
theorem dX11_age_26 : decode cX11_age 26 = .ok (.iconst 0, 1) := by decide +kernel
theorem dX11_age_27 : decode cX11_age 27 = .ok (.istore_n 1, 1) := by decide +kernel
theorem dX11_age_28 : decode cX11_age 28 = .ok (.iload_n 1, 1) := by decide +kernel
theorem dX11_age_29 : decode cX11_age 29 = .ok (.aload_n 0, 1) := by decide +kernel
theorem dX11_age_30 : decode cX11_age 30 = .ok (.getfield 153, 3) := by decide +kernel
theorem dX11_age_33 : decode cX11_age 33 = .ok (.if_icmp .ge 98, 3) := by decide +kernel
theorem dX11_age_36 : decode cX11_age 36 = .ok (.iconst 0, 1) := by decide +kernel
theorem dX11_age_37 : decode cX11_age 37 = .ok (.istore_n 2, 1) := by decide +kernel
theorem dX11_age_38 : decode cX11_age 38 = .ok (.iload_n 2, 1) := by decide +kernel
theorem dX11_age_39 : decode cX11_age 39 = .ok (.iconst 3, 1) := by decide +kernel
theorem dX11_age_40 : decode cX11_age 40 = .ok (.if_icmp .ge 85, 3) := by decide +kernel
theorem dX11_age_43 : decode cX11_age 43 = .ok (.bipush 60, 2) := by decide +kernel
theorem dX11_age_45 : decode cX11_age 45 = .ok (.istore_n 3, 1) := by decide +kernel
theorem dX11_age_46 : decode cX11_age 46 = .ok (.iload_n 3, 1) := by decide +kernel
theorem dX11_age_47 : decode cX11_age 47 = .ok (.ifCond .lt 72, 3) := by decide +kernel
theorem dX11_age_50 : decode cX11_age 50 = .ok (.iload_n 1, 1) := by decide +kernel
theorem dX11_age_51 : decode cX11_age 51 = .ok (.iload_n 2, 1) := by decide +kernel
theorem dX11_age_52 : decode cX11_age 52 = .ok (.iload_n 3, 1) := by decide +kernel
theorem dX11_age_53 : decode cX11_age 53 = .ok (.invokestatic 164, 3) := by decide +kernel
theorem dX11_age_56 : decode cX11_age 56 = .ok (.istore 4, 2) := by decide +kernel
theorem dX11_age_58 : decode cX11_age 58 = .ok (.iload_n 3, 1) := by decide +kernel
theorem dX11_age_59 : decode cX11_age 59 = .ok (.iconst 1, 1) := by decide +kernel
theorem dX11_age_60 : decode cX11_age 60 = .ok (.iadd, 1) := by decide +kernel
theorem dX11_age_61 : decode cX11_age 61 = .ok (.aload_n 0, 1) := by decide +kernel
theorem dX11_age_62 : decode cX11_age 62 = .ok (.getfield 22, 3) := by decide +kernel
theorem dX11_age_65 : decode cX11_age 65 = .ok (.iload_n 2, 1) := by decide +kernel
theorem dX11_age_66 : decode cX11_age 66 = .ok (.iaload, 1) := by decide +kernel
theorem dX11_age_67 : decode cX11_age 67 = .ok (.if_icmp .le 22, 3) := by decide +kernel
theorem dX11_age_70 : decode cX11_age 70 = .ok (.aload_n 0, 1) := by decide +kernel
theorem dX11_age_71 : decode cX11_age 71 = .ok (.getfield 28, 3) := by decide +kernel
theorem dX11_age_74 : decode cX11_age 74 = .ok (.iconst 1, 1) := by decide +kernel
theorem dX11_age_75 : decode cX11_age 75 = .ok (.dup2, 1) := by decide +kernel
theorem dX11_age_76 : decode cX11_age 76 = .ok (.iaload, 1) := by decide +kernel
theorem dX11_age_77 : decode cX11_age 77 = .ok (.aload_n 0, 1) := by decide +kernel
theorem dX11_age_78 : decode cX11_age 78 = .ok (.getfield 25, 3) := by decide +kernel
theorem dX11_age_81 : decode cX11_age 81 = .ok (.iload 4, 2) := by decide +kernel
theorem dX11_age_83 : decode cX11_age 83 = .ok (.iaload, 1) := by decide +kernel
theorem dX11_age_84 : decode cX11_age 84 = .ok (.iadd, 1) := by decide +kernel
theorem dX11_age_85 : decode cX11_age 85 = .ok (.iastore, 1) := by decide +kernel
theorem dX11_age_86 : decode cX11_age 86 = .ok (.goto 19, 3) := by decide +kernel
theorem dX11_age_89 : decode cX11_age 89 = .ok (.aload_n 0, 1) := by decide +kernel
theorem dX11_age_90 : decode cX11_age 90 = .ok (.getfield 25, 3) := by decide +kernel
theorem dX11_age_93 : decode cX11_age 93 = .ok (.iload 4, 2) := by decide +kernel
theorem dX11_age_95 : decode cX11_age 95 = .ok (.iconst 1, 1) := by decide +kernel
theorem dX11_age_96 : decode cX11_age 96 = .ok (.iadd, 1) := by decide +kernel
theorem dX11_age_97 : decode cX11_age 97 = .ok (.aload_n 0, 1) := by decide +kernel
theorem dX11_age_98 : decode cX11_age 98 = .ok (.getfield 25, 3) := by decide +kernel
theorem dX11_age_101 : decode cX11_age 101 = .ok (.iload 4, 2) := by decide +kernel
theorem dX11_age_103 : decode cX11_age 103 = .ok (.iaload, 1) := by decide +kernel
theorem dX11_age_104 : decode cX11_age 104 = .ok (.iastore, 1) := by decide +kernel
theorem dX11_age_105 : decode cX11_age 105 = .ok (.aload_n 0, 1) := by decide +kernel
theorem dX11_age_106 : decode cX11_age 106 = .ok (.getfield 25, 3) := by decide +kernel
theorem dX11_age_109 : decode cX11_age 109 = .ok (.iload 4, 2) := by decide +kernel
theorem dX11_age_111 : decode cX11_age 111 = .ok (.iconst 0, 1) := by decide +kernel
theorem dX11_age_112 : decode cX11_age 112 = .ok (.iastore, 1) := by decide +kernel
theorem dX11_age_113 : decode cX11_age 113 = .ok (.iinc 3 (-1), 3) := by decide +kernel
end
section
theorem dX11_age_116 : decode cX11_age 116 = .ok (.goto (-70), 3) := by decide +kernel
theorem dX11_age_119 : decode cX11_age 119 = .ok (.iinc 2 1, 3) := by decide +kernel
theorem dX11_age_122 : decode cX11_age 122 = .ok (.goto (-84), 3) := by decide +kernel
theorem dX11_age_125 : decode cX11_age 125 = .ok (.iinc 1 1, 3) := by decide +kernel
theorem dX11_age_128 : decode cX11_age 128 = .ok (.goto (-100), 3) := by decide +kernel
theorem dX11_age_131 : decode cX11_age 131 = .ok (.return_, 1) := by decide +kernel
theorem dX11_eat_0 : decode cX11_eat 0 = .ok (.iconst 0, 1) := by decide +kernel
theorem dX11_eat_1 : decode cX11_eat 1 = .ok (.istore_n 1, 1) := by decide +kernel
theorem dX11_eat_2 : decode cX11_eat 2 = .ok (.iload_n 1, 1) := by decide +kernel
theorem dX11_eat_3 : decode cX11_eat 3 = .ok (.aload_n 0, 1) := by decide +kernel
theorem dX11_eat_4 : decode cX11_eat 4 = .ok (.getfield 153, 3) := by decide +kernel
theorem dX11_eat_7 : decode cX11_eat 7 = .ok (.if_icmp .ge 37, 3) := by decide +kernel
theorem dX11_eat_10 : decode cX11_eat 10 = .ok (.aload_n 0, 1) := by decide +kernel
theorem dX11_eat_11 : decode cX11_eat 11 = .ok (.getfield 28, 3) := by decide +kernel
theorem dX11_eat_14 : decode cX11_eat 14 = .ok (.iconst 0, 1) := by decide +kernel
theorem dX11_eat_15 : decode cX11_eat 15 = .ok (.dup2, 1) := by decide +kernel
theorem dX11_eat_16 : decode cX11_eat 16 = .ok (.iaload, 1) := by decide +kernel
theorem dX11_eat_17 : decode cX11_eat 17 = .ok (.aload_n 0, 1) := by decide +kernel
theorem dX11_eat_18 : decode cX11_eat 18 = .ok (.getfield 13, 3) := by decide +kernel
theorem dX11_eat_21 : decode cX11_eat 21 = .ok (.iload_n 1, 1) := by decide +kernel
theorem dX11_eat_22 : decode cX11_eat 22 = .ok (.iaload, 1) := by decide +kernel
theorem dX11_eat_23 : decode cX11_eat 23 = .ok (.aload_n 0, 1) := by decide +kernel
theorem dX11_eat_24 : decode cX11_eat 24 = .ok (.iload_n 1, 1) := by decide +kernel
theorem dX11_eat_25 : decode cX11_eat 25 = .ok (.iconst 0, 1) := by decide +kernel
theorem dX11_eat_26 : decode cX11_eat 26 = .ok (.aload_n 0, 1) := by decide +kernel
theorem dX11_eat_27 : decode cX11_eat 27 = .ok (.getfield 13, 3) := by decide +kernel
theorem dX11_eat_30 : decode cX11_eat 30 = .ok (.iload_n 1, 1) := by decide +kernel
theorem dX11_eat_31 : decode cX11_eat 31 = .ok (.iaload, 1) := by decide +kernel
theorem dX11_eat_32 : decode cX11_eat 32 = .ok (.invokevirtual 182, 3) := by decide +kernel
theorem dX11_eat_35 : decode cX11_eat 35 = .ok (.isub, 1) := by decide +kernel
theorem dX11_eat_36 : decode cX11_eat 36 = .ok (.iadd, 1) := by decide +kernel
theorem dX11_eat_37 : decode cX11_eat 37 = .ok (.iastore, 1) := by decide +kernel
theorem dX11_eat_38 : decode cX11_eat 38 = .ok (.iinc 1 1, 3) := by decide +kernel
theorem dX11_eat_41 : decode cX11_eat 41 = .ok (.goto (-39), 3) := by decide +kernel
theorem dX11_eat_44 : decode cX11_eat 44 = .ok (.return_, 1) := by decide +kernel
theorem dX11_send_0 : decode cX11_send 0 = .ok (.aload_n 0, 1) := by decide +kernel
theorem dX11_send_1 : decode cX11_send 1 = .ok (.getfield 57, 3) := by decide +kernel
theorem dX11_send_4 : decode cX11_send 4 = .ok (.iload_n 1, 1) := by decide +kernel
theorem dX11_send_5 : decode cX11_send 5 = .ok (.iaload, 1) := by decide +kernel
theorem dX11_send_6 : decode cX11_send 6 = .ok (.istore_n 2, 1) := by decide +kernel
theorem dX11_send_7 : decode cX11_send 7 = .ok (.aload_n 0, 1) := by decide +kernel
theorem dX11_send_8 : decode cX11_send 8 = .ok (.getfield 60, 3) := by decide +kernel
theorem dX11_send_11 : decode cX11_send 11 = .ok (.iload_n 1, 1) := by decide +kernel
theorem dX11_send_12 : decode cX11_send 12 = .ok (.iaload, 1) := by decide +kernel
theorem dX11_send_13 : decode cX11_send 13 = .ok (.istore_n 3, 1) := by decide +kernel
theorem dX11_send_14 : decode cX11_send 14 = .ok (.aload_n 0, 1) := by decide +kernel
theorem dX11_send_15 : decode cX11_send 15 = .ok (.iload_n 2, 1) := by decide +kernel
theorem dX11_send_16 : decode cX11_send 16 = .ok (.invokevirtual 157, 3) := by decide +kernel
theorem dX11_send_19 : decode cX11_send 19 = .ok (.ifCond .eq 25, 3) := by decide +kernel
theorem dX11_send_22 : decode cX11_send 22 = .ok (.aload_n 0, 1) := by decide +kernel
theorem dX11_send_23 : decode cX11_send 23 = .ok (.iload_n 3, 1) := by decide +kernel
theorem dX11_send_24 : decode cX11_send 24 = .ok (.invokevirtual 157, 3) := by decide +kernel
theorem dX11_send_27 : decode cX11_send 27 = .ok (.ifCond .eq 17, 3) := by decide +kernel
theorem dX11_send_30 : decode cX11_send 30 = .ok (.aload_n 0, 1) := by decide +kernel
theorem dX11_send_31 : decode cX11_send 31 = .ok (.getfield 19, 3) := by decide +kernel
theorem dX11_send_34 : decode cX11_send 34 = .ok (.bipush 8, 2) := by decide +kernel
theorem dX11_send_36 : decode cX11_send 36 = .ok (.iload_n 2, 1) := by decide +kernel
theorem dX11_send_37 : decode cX11_send 37 = .ok (.imul, 1) := by decide +kernel
theorem dX11_send_38 : decode cX11_send 38 = .ok (.iload_n 3, 1) := by decide +kernel
theorem dX11_send_39 : decode cX11_send 39 = .ok (.iadd, 1) := by decide +kernel
theorem dX11_send_40 : decode cX11_send 40 = .ok (.iaload, 1) := by decide +kernel
theorem dX11_send_41 : decode cX11_send 41 = .ok (.ifCond .ge 4, 3) := by decide +kernel
theorem dX11_send_44 : decode cX11_send 44 = .ok (.return_, 1) := by decide +kernel
theorem dX11_send_45 : decode cX11_send 45 = .ok (.aload_n 0, 1) := by decide +kernel
theorem dX11_send_46 : decode cX11_send 46 = .ok (.getfield 51, 3) := by decide +kernel
theorem dX11_send_49 : decode cX11_send 49 = .ok (.iload_n 1, 1) := by decide +kernel
theorem dX11_send_50 : decode cX11_send 50 = .ok (.iaload, 1) := by decide +kernel
theorem dX11_send_51 : decode cX11_send 51 = .ok (.istore 4, 2) := by decide +kernel
theorem dX11_send_53 : decode cX11_send 53 = .ok (.bipush 60, 2) := by decide +kernel
theorem dX11_send_55 : decode cX11_send 55 = .ok (.istore 5, 2) := by decide +kernel
theorem dX11_send_57 : decode cX11_send 57 = .ok (.iload 5, 2) := by decide +kernel
theorem dX11_send_59 : decode cX11_send 59 = .ok (.ifCond .lt 170, 3) := by decide +kernel
theorem dX11_send_62 : decode cX11_send 62 = .ok (.aload_n 0, 1) := by decide +kernel
theorem dX11_send_63 : decode cX11_send 63 = .ok (.getfield 344, 3) := by decide +kernel
theorem dX11_send_66 : decode cX11_send 66 = .ok (.bipush 60, 2) := by decide +kernel
theorem dX11_send_68 : decode cX11_send 68 = .ok (.if_icmp .ge 161, 3) := by decide +kernel
theorem dX11_send_71 : decode cX11_send 71 = .ok (.iload_n 2, 1) := by decide +kernel
theorem dX11_send_72 : decode cX11_send 72 = .ok (.aload_n 0, 1) := by decide +kernel
theorem dX11_send_73 : decode cX11_send 73 = .ok (.getfield 54, 3) := by decide +kernel
theorem dX11_send_76 : decode cX11_send 76 = .ok (.iload_n 1, 1) := by decide +kernel
theorem dX11_send_77 : decode cX11_send 77 = .ok (.iaload, 1) := by decide +kernel
theorem dX11_send_78 : decode cX11_send 78 = .ok (.iload 5, 2) := by decide +kernel
theorem dX11_send_80 : decode cX11_send 80 = .ok (.invokestatic 164, 3) := by decide +kernel
theorem dX11_send_83 : decode cX11_send 83 = .ok (.istore 6, 2) := by decide +kernel
theorem dX11_send_85 : decode cX11_send 85 = .ok (.iload 4, 2) := by decide +kernel
theorem dX11_send_87 : decode cX11_send 87 = .ok (.aload_n 0, 1) := by decide +kernel
theorem dX11_send_88 : decode cX11_send 88 = .ok (.getfield 25, 3) := by decide +kernel
theorem dX11_send_91 : decode cX11_send 91 = .ok (.iload 6, 2) := by decide +kernel
theorem dX11_send_93 : decode cX11_send 93 = .ok (.iaload, 1) := by decide +kernel
theorem dX11_send_94 : decode cX11_send 94 = .ok (.if_icmp .ge 8, 3) := by decide +kernel
theorem dX11_send_97 : decode cX11_send 97 = .ok (.iload 4, 2) := by decide +kernel
theorem dX11_send_99 : decode cX11_send 99 = .ok (.goto 10, 3) := by decide +kernel
theorem dX11_send_102 : decode cX11_send 102 = .ok (.aload_n 0, 1) := by decide +kernel
theorem dX11_send_103 : decode cX11_send 103 = .ok (.getfield 25, 3) := by decide +kernel
theorem dX11_send_106 : decode cX11_send 106 = .ok (.iload 6, 2) := by decide +kernel
theorem dX11_send_108 : decode cX11_send 108 = .ok (.iaload, 1) := by decide +kernel
theorem dX11_send_109 : decode cX11_send 109 = .ok (.istore 7, 2) := by decide +kernel
theorem dX11_send_111 : decode cX11_send 111 = .ok (.iload 7, 2) := by decide +kernel
theorem dX11_send_113 : decode cX11_send 113 = .ok (.ifCond .ne 6, 3) := by decide +kernel
theorem dX11_send_116 : decode cX11_send 116 = .ok (.goto 107, 3) := by decide +kernel
theorem dX11_send_119 : decode cX11_send 119 = .ok (.aload_n 0, 1) := by decide +kernel
theorem dX11_send_120 : decode cX11_send 120 = .ok (.getfield 25, 3) := by decide +kernel
theorem dX11_send_123 : decode cX11_send 123 = .ok (.iload 6, 2) := by decide +kernel
theorem dX11_send_125 : decode cX11_send 125 = .ok (.dup2, 1) := by decide +kernel
theorem dX11_send_126 : decode cX11_send 126 = .ok (.iaload, 1) := by decide +kernel
theorem dX11_send_127 : decode cX11_send 127 = .ok (.iload 7, 2) := by decide +kernel
theorem dX11_send_129 : decode cX11_send 129 = .ok (.isub, 1) := by decide +kernel
theorem dX11_send_130 : decode cX11_send 130 = .ok (.iastore, 1) := by decide +kernel
theorem dX11_send_131 : decode cX11_send 131 = .ok (.iload 4, 2) := by decide +kernel
theorem dX11_send_133 : decode cX11_send 133 = .ok (.iload 7, 2) := by decide +kernel
theorem dX11_send_135 : decode cX11_send 135 = .ok (.isub, 1) := by decide +kernel
theorem dX11_send_136 : decode cX11_send 136 = .ok (.istore 4, 2) := by decide +kernel
theorem dX11_send_138 : decode cX11_send 138 = .ok (.aload_n 0, 1) := by decide +kernel
theorem dX11_send_139 : decode cX11_send 139 = .ok (.getfield 78, 3) := by decide +kernel
theorem dX11_send_142 : decode cX11_send 142 = .ok (.aload_n 0, 1) := by decide +kernel
theorem dX11_send_143 : decode cX11_send 143 = .ok (.getfield 344, 3) := by decide +kernel
theorem dX11_send_146 : decode cX11_send 146 = .ok (.iload_n 3, 1) := by decide +kernel
theorem dX11_send_147 : decode cX11_send 147 = .ok (.iastore, 1) := by decide +kernel
theorem dX11_send_148 : decode cX11_send 148 = .ok (.aload_n 0, 1) := by decide +kernel
theorem dX11_send_149 : decode cX11_send 149 = .ok (.getfield 81, 3) := by decide +kernel
theorem dX11_send_152 : decode cX11_send 152 = .ok (.aload_n 0, 1) := by decide +kernel
theorem dX11_send_153 : decode cX11_send 153 = .ok (.getfield 344, 3) := by decide +kernel
theorem dX11_send_156 : decode cX11_send 156 = .ok (.aload_n 0, 1) := by decide +kernel
theorem dX11_send_157 : decode cX11_send 157 = .ok (.getfield 54, 3) := by decide +kernel
theorem dX11_send_160 : decode cX11_send 160 = .ok (.iload_n 1, 1) := by decide +kernel
theorem dX11_send_161 : decode cX11_send 161 = .ok (.iaload, 1) := by decide +kernel
theorem dX11_send_162 : decode cX11_send 162 = .ok (.iastore, 1) := by decide +kernel
theorem dX11_send_163 : decode cX11_send 163 = .ok (.aload_n 0, 1) := by decide +kernel
theorem dX11_send_164 : decode cX11_send 164 = .ok (.getfield 84, 3) := by decide +kernel
theorem dX11_send_167 : decode cX11_send 167 = .ok (.aload_n 0, 1) := by decide +kernel
theorem dX11_send_168 : decode cX11_send 168 = .ok (.getfield 344, 3) := by decide +kernel
theorem dX11_send_171 : decode cX11_send 171 = .ok (.iload 5, 2) := by decide +kernel
theorem dX11_send_173 : decode cX11_send 173 = .ok (.iastore, 1) := by decide +kernel
theorem dX11_send_174 : decode cX11_send 174 = .ok (.aload_n 0, 1) := by decide +kernel
theorem dX11_send_175 : decode cX11_send 175 = .ok (.getfield 87, 3) := by decide +kernel
theorem dX11_send_178 : decode cX11_send 178 = .ok (.aload_n 0, 1) := by decide +kernel
theorem dX11_send_179 : decode cX11_send 179 = .ok (.getfield 344, 3) := by decide +kernel
theorem dX11_send_182 : decode cX11_send 182 = .ok (.iload 7, 2) := by decide +kernel
theorem dX11_send_184 : decode cX11_send 184 = .ok (.iastore, 1) := by decide +kernel
theorem dX11_send_185 : decode cX11_send 185 = .ok (.aload_n 0, 1) := by decide +kernel
theorem dX11_send_186 : decode cX11_send 186 = .ok (.getfield 90, 3) := by decide +kernel
theorem dX11_send_189 : decode cX11_send 189 = .ok (.aload_n 0, 1) := by decide +kernel
theorem dX11_send_190 : decode cX11_send 190 = .ok (.getfield 344, 3) := by decide +kernel
theorem dX11_send_193 : decode cX11_send 193 = .ok (.aload_n 0, 1) := by decide +kernel
theorem dX11_send_194 : decode cX11_send 194 = .ok (.getfield 332, 3) := by decide +kernel
theorem dX11_send_197 : decode cX11_send 197 = .ok (.aload_n 0, 1) := by decide +kernel
theorem dX11_send_198 : decode cX11_send 198 = .ok (.getfield 19, 3) := by decide +kernel
theorem dX11_send_201 : decode cX11_send 201 = .ok (.bipush 8, 2) := by decide +kernel
theorem dX11_send_203 : decode cX11_send 203 = .ok (.iload_n 2, 1) := by decide +kernel
theorem dX11_send_204 : decode cX11_send 204 = .ok (.imul, 1) := by decide +kernel
theorem dX11_send_205 : decode cX11_send 205 = .ok (.iload_n 3, 1) := by decide +kernel
theorem dX11_send_206 : decode cX11_send 206 = .ok (.iadd, 1) := by decide +kernel
theorem dX11_send_207 : decode cX11_send 207 = .ok (.iaload, 1) := by decide +kernel
theorem dX11_send_208 : decode cX11_send 208 = .ok (.invokestatic 347, 3) := by decide +kernel
theorem dX11_send_211 : decode cX11_send 211 = .ok (.iadd, 1) := by decide +kernel
theorem dX11_send_212 : decode cX11_send 212 = .ok (.iastore, 1) := by decide +kernel
theorem dX11_send_213 : decode cX11_send 213 = .ok (.aload_n 0, 1) := by decide +kernel
theorem dX11_send_214 : decode cX11_send 214 = .ok (.dup, 1) := by decide +kernel
theorem dX11_send_215 : decode cX11_send 215 = .ok (.getfield 344, 3) := by decide +kernel
theorem dX11_send_218 : decode cX11_send 218 = .ok (.iconst 1, 1) := by decide +kernel
theorem dX11_send_219 : decode cX11_send 219 = .ok (.iadd, 1) := by decide +kernel
theorem dX11_send_220 : decode cX11_send 220 = .ok (.putfield 344, 3) := by decide +kernel
theorem dX11_send_223 : decode cX11_send 223 = .ok (.iinc 5 (-1), 3) := by decide +kernel
theorem dX11_send_226 : decode cX11_send 226 = .ok (.goto (-169), 3) := by decide +kernel
theorem dX11_send_229 : decode cX11_send 229 = .ok (.return_, 1) := by decide +kernel
theorem dX11_months_0 : decode cX11_months 0 = .ok (.iload_n 1, 1) := by decide +kernel
theorem dX11_months_1 : decode cX11_months 1 = .ok (.ifCond .lt 21, 3) := by decide +kernel
theorem dX11_months_4 : decode cX11_months 4 = .ok (.iload_n 1, 1) := by decide +kernel
theorem dX11_months_5 : decode cX11_months 5 = .ok (.bipush 60, 2) := by decide +kernel
theorem dX11_months_7 : decode cX11_months 7 = .ok (.if_icmp .gt 15, 3) := by decide +kernel
theorem dX11_months_10 : decode cX11_months 10 = .ok (.aload_n 0, 1) := by decide +kernel
theorem dX11_months_11 : decode cX11_months 11 = .ok (.getfield 332, 3) := by decide +kernel
theorem dX11_months_14 : decode cX11_months 14 = .ok (.iload_n 1, 1) := by decide +kernel
theorem dX11_months_15 : decode cX11_months 15 = .ok (.iadd, 1) := by decide +kernel
theorem dX11_months_16 : decode cX11_months 16 = .ok (.sipush 2000, 3) := by decide +kernel
theorem dX11_months_19 : decode cX11_months 19 = .ok (.if_icmp .le 5, 3) := by decide +kernel
theorem dX11_months_22 : decode cX11_months 22 = .ok (.iconst (-1), 1) := by decide +kernel
theorem dX11_months_23 : decode cX11_months 23 = .ok (.ireturn, 1) := by decide +kernel
theorem dX11_months_24 : decode cX11_months 24 = .ok (.iconst 0, 1) := by decide +kernel
theorem dX11_months_25 : decode cX11_months 25 = .ok (.istore_n 2, 1) := by decide +kernel
theorem dX11_months_26 : decode cX11_months 26 = .ok (.iload_n 2, 1) := by decide +kernel
theorem dX11_months_27 : decode cX11_months 27 = .ok (.iload_n 1, 1) := by decide +kernel
theorem dX11_months_28 : decode cX11_months 28 = .ok (.if_icmp .ge 79, 3) := by decide +kernel
theorem dX11_months_31 : decode cX11_months 31 = .ok (.aload_n 0, 1) := by decide +kernel
theorem dX11_months_32 : decode cX11_months 32 = .ok (.invokevirtual 350, 3) := by decide +kernel
theorem dX11_months_35 : decode cX11_months 35 = .ok (.aload_n 0, 1) := by decide +kernel
theorem dX11_months_36 : decode cX11_months 36 = .ok (.invokevirtual 353, 3) := by decide +kernel
theorem dX11_months_39 : decode cX11_months 39 = .ok (.aload_n 0, 1) := by decide +kernel
theorem dX11_months_40 : decode cX11_months 40 = .ok (.invokevirtual 356, 3) := by decide +kernel
theorem dX11_months_43 : decode cX11_months 43 = .ok (.bipush 12, 2) := by decide +kernel
theorem dX11_months_45 : decode cX11_months 45 = .ok (.aload_n 0, 1) := by decide +kernel
theorem dX11_months_46 : decode cX11_months 46 = .ok (.getfield 255, 3) := by decide +kernel
theorem dX11_months_49 : decode cX11_months 49 = .ok (.imul, 1) := by decide +kernel
theorem dX11_months_50 : decode cX11_months 50 = .ok (.istore_n 3, 1) := by decide +kernel
theorem dX11_months_51 : decode cX11_months 51 = .ok (.iload_n 3, 1) := by decide +kernel
theorem dX11_months_52 : decode cX11_months 52 = .ok (.bipush 12, 2) := by decide +kernel
theorem dX11_months_54 : decode cX11_months 54 = .ok (.aload_n 0, 1) := by decide +kernel
theorem dX11_months_55 : decode cX11_months 55 = .ok (.getfield 255, 3) := by decide +kernel
theorem dX11_months_58 : decode cX11_months 58 = .ok (.imul, 1) := by decide +kernel
theorem dX11_months_59 : decode cX11_months 59 = .ok (.aload_n 0, 1) := by decide +kernel
theorem dX11_months_60 : decode cX11_months 60 = .ok (.getfield 42, 3) := by decide +kernel
theorem dX11_months_63 : decode cX11_months 63 = .ok (.aload_n 0, 1) := by decide +kernel
theorem dX11_months_64 : decode cX11_months 64 = .ok (.getfield 255, 3) := by decide +kernel
theorem dX11_months_67 : decode cX11_months 67 = .ok (.iaload, 1) := by decide +kernel
theorem dX11_months_68 : decode cX11_months 68 = .ok (.iadd, 1) := by decide +kernel
theorem dX11_months_69 : decode cX11_months 69 = .ok (.if_icmp .ge 22, 3) := by decide +kernel
theorem dX11_months_72 : decode cX11_months 72 = .ok (.aload_n 0, 1) := by decide +kernel
theorem dX11_months_73 : decode cX11_months 73 = .ok (.iload_n 3, 1) := by decide +kernel
theorem dX11_months_74 : decode cX11_months 74 = .ok (.invokevirtual 359, 3) := by decide +kernel
theorem dX11_months_77 : decode cX11_months 77 = .ok (.ifCond .eq 8, 3) := by decide +kernel
theorem dX11_months_80 : decode cX11_months 80 = .ok (.aload_n 0, 1) := by decide +kernel
theorem dX11_months_81 : decode cX11_months 81 = .ok (.iload_n 3, 1) := by decide +kernel
theorem dX11_months_82 : decode cX11_months 82 = .ok (.invokevirtual 362, 3) := by decide +kernel
theorem dX11_months_85 : decode cX11_months 85 = .ok (.iinc 3 1, 3) := by decide +kernel
theorem dX11_months_88 : decode cX11_months 88 = .ok (.goto (-37), 3) := by decide +kernel
theorem dX11_months_91 : decode cX11_months 91 = .ok (.aload_n 0, 1) := by decide +kernel
theorem dX11_months_92 : decode cX11_months 92 = .ok (.dup, 1) := by decide +kernel
theorem dX11_months_93 : decode cX11_months 93 = .ok (.getfield 332, 3) := by decide +kernel
theorem dX11_months_96 : decode cX11_months 96 = .ok (.iconst 1, 1) := by decide +kernel
theorem dX11_months_97 : decode cX11_months 97 = .ok (.iadd, 1) := by decide +kernel
theorem dX11_months_98 : decode cX11_months 98 = .ok (.putfield 332, 3) := by decide +kernel
theorem dX11_months_101 : decode cX11_months 101 = .ok (.iinc 2 1, 3) := by decide +kernel
theorem dX11_months_104 : decode cX11_months 104 = .ok (.goto (-78), 3) := by decide +kernel
theorem dX11_months_107 : decode cX11_months 107 = .ok (.aload_n 0, 1) := by decide +kernel
theorem dX11_months_108 : decode cX11_months 108 = .ok (.getfield 332, 3) := by decide +kernel
theorem dX11_months_111 : decode cX11_months 111 = .ok (.ireturn, 1) := by decide +kernel
theorem dX11_sum_0 : decode cX11_sum 0 = .ok (.iload_n 1, 1) := by decide +kernel
theorem dX11_sum_1 : decode cX11_sum 1 = .ok (.ifCond .lt 8, 3) := by decide +kernel
theorem dX11_sum_4 : decode cX11_sum 4 = .ok (.iload_n 1, 1) := by decide +kernel
theorem dX11_sum_5 : decode cX11_sum 5 = .ok (.iconst 5, 1) := by decide +kernel
theorem dX11_sum_6 : decode cX11_sum 6 = .ok (.if_icmp .le 5, 3) := by decide +kernel
theorem dX11_sum_9 : decode cX11_sum 9 = .ok (.iconst (-1), 1) := by decide +kernel
theorem dX11_sum_10 : decode cX11_sum 10 = .ok (.ireturn, 1) := by decide +kernel
theorem dX11_sum_11 : decode cX11_sum 11 = .ok (.iload_n 1, 1) := by decide +kernel
theorem dX11_sum_12 : decode cX11_sum 12 = .ok (.iconst 4, 1) := by decide +kernel
theorem dX11_sum_13 : decode cX11_sum 13 = .ok (.if_icmp .ne 8, 3) := by decide +kernel
theorem dX11_sum_16 : decode cX11_sum 16 = .ok (.aload_n 0, 1) := by decide +kernel
theorem dX11_sum_17 : decode cX11_sum 17 = .ok (.getfield 344, 3) := by decide +kernel
theorem dX11_sum_20 : decode cX11_sum 20 = .ok (.ireturn, 1) := by decide +kernel
theorem dX11_sum_21 : decode cX11_sum 21 = .ok (.iconst 0, 1) := by decide +kernel
theorem dX11_sum_22 : decode cX11_sum 22 = .ok (.istore_n 2, 1) := by decide +kernel
theorem dX11_sum_23 : decode cX11_sum 23 = .ok (.iconst 0, 1) := by decide +kernel
theorem dX11_sum_24 : decode cX11_sum 24 = .ok (.istore_n 3, 1) := by decide +kernel
theorem dX11_sum_25 : decode cX11_sum 25 = .ok (.iload_n 3, 1) := by decide +kernel
theorem dX11_sum_26 : decode cX11_sum 26 = .ok (.aload_n 0, 1) := by decide +kernel
theorem dX11_sum_27 : decode cX11_sum 27 = .ok (.getfield 344, 3) := by decide +kernel
theorem dX11_sum_30 : decode cX11_sum 30 = .ok (.if_icmp .ge 18, 3) := by decide +kernel
theorem dX11_sum_33 : decode cX11_sum 33 = .ok (.iload_n 2, 1) := by decide +kernel
theorem dX11_sum_34 : decode cX11_sum 34 = .ok (.aload_n 0, 1) := by decide +kernel
theorem dX11_sum_35 : decode cX11_sum 35 = .ok (.getfield 87, 3) := by decide +kernel
theorem dX11_sum_38 : decode cX11_sum 38 = .ok (.iload_n 3, 1) := by decide +kernel
theorem dX11_sum_39 : decode cX11_sum 39 = .ok (.iaload, 1) := by decide +kernel
theorem dX11_sum_40 : decode cX11_sum 40 = .ok (.iadd, 1) := by decide +kernel
theorem dX11_sum_41 : decode cX11_sum 41 = .ok (.istore_n 2, 1) := by decide +kernel
theorem dX11_sum_42 : decode cX11_sum 42 = .ok (.iinc 3 1, 3) := by decide +kernel
theorem dX11_sum_45 : decode cX11_sum 45 = .ok (.goto (-20), 3) := by decide +kernel
theorem dX11_sum_48 : decode cX11_sum 48 = .ok (.iload_n 1, 1) := by decide +kernel
theorem dX11_sum_49 : decode cX11_sum 49 = .ok (.iconst 3, 1) := by decide +kernel
theorem dX11_sum_50 : decode cX11_sum 50 = .ok (.if_icmp .ne 7, 3) := by decide +kernel
theorem dX11_sum_53 : decode cX11_sum 53 = .ok (.iload_n 2, 1) := by decide +kernel
theorem dX11_sum_54 : decode cX11_sum 54 = .ok (.goto 9, 3) := by decide +kernel
theorem dX11_sum_57 : decode cX11_sum 57 = .ok (.aload_n 0, 1) := by decide +kernel
theorem dX11_sum_58 : decode cX11_sum 58 = .ok (.getfield 28, 3) := by decide +kernel
theorem dX11_sum_61 : decode cX11_sum 61 = .ok (.iload_n 1, 1) := by decide +kernel
theorem dX11_sum_62 : decode cX11_sum 62 = .ok (.iaload, 1) := by decide +kernel
theorem dX11_sum_63 : decode cX11_sum 63 = .ok (.ireturn, 1) := by decide +kernel
theorem dX11_feast_0 : decode cX11_feast 0 = .ok (.aload_n 0, 1) := by decide +kernel
theorem dX11_feast_1 : decode cX11_feast 1 = .ok (.iload_n 1, 1) := by decide +kernel
theorem dX11_feast_2 : decode cX11_feast 2 = .ok (.invokevirtual 157, 3) := by decide +kernel
theorem dX11_feast_5 : decode cX11_feast 5 = .ok (.ifCond .eq 48, 3) := by decide +kernel
theorem dX11_feast_8 : decode cX11_feast 8 = .ok (.iload_n 2, 1) := by decide +kernel
theorem dX11_feast_9 : decode cX11_feast 9 = .ok (.aload_n 0, 1) := by decide +kernel
theorem dX11_feast_10 : decode cX11_feast 10 = .ok (.getfield 332, 3) := by decide +kernel
theorem dX11_feast_13 : decode cX11_feast 13 = .ok (.if_icmp .lt 40, 3) := by decide +kernel
theorem dX11_feast_16 : decode cX11_feast 16 = .ok (.iload_n 2, 1) := by decide +kernel
theorem dX11_feast_17 : decode cX11_feast 17 = .ok (.sipush 2000, 3) := by decide +kernel
theorem dX11_feast_20 : decode cX11_feast 20 = .ok (.if_icmp .gt 33, 3) := by decide +kernel
theorem dX11_feast_23 : decode cX11_feast 23 = .ok (.iload_n 3, 1) := by decide +kernel
theorem dX11_feast_24 : decode cX11_feast 24 = .ok (.invokestatic 161, 3) := by decide +kernel
theorem dX11_feast_27 : decode cX11_feast 27 = .ok (.ifCond .eq 26, 3) := by decide +kernel
theorem dX11_feast_30 : decode cX11_feast 30 = .ok (.iload 4, 2) := by decide +kernel
theorem dX11_feast_32 : decode cX11_feast 32 = .ok (.iconst 1, 1) := by decide +kernel
theorem dX11_feast_33 : decode cX11_feast 33 = .ok (.if_icmp .lt 20, 3) := by decide +kernel
theorem dX11_feast_36 : decode cX11_feast 36 = .ok (.iload 4, 2) := by decide +kernel
theorem dX11_feast_38 : decode cX11_feast 38 = .ok (.sipush 10000, 3) := by decide +kernel
theorem dX11_feast_41 : decode cX11_feast 41 = .ok (.if_icmp .gt 12, 3) := by decide +kernel
theorem dX11_feast_44 : decode cX11_feast 44 = .ok (.aload_n 0, 1) := by decide +kernel
theorem dX11_feast_45 : decode cX11_feast 45 = .ok (.getfield 365, 3) := by decide +kernel
theorem dX11_feast_48 : decode cX11_feast 48 = .ok (.bipush 10, 2) := by decide +kernel
theorem dX11_feast_50 : decode cX11_feast 50 = .ok (.if_icmp .ne 5, 3) := by decide +kernel
theorem dX11_feast_53 : decode cX11_feast 53 = .ok (.iconst (-1), 1) := by decide +kernel
theorem dX11_feast_54 : decode cX11_feast 54 = .ok (.ireturn, 1) := by decide +kernel
theorem dX11_feast_55 : decode cX11_feast 55 = .ok (.aload_n 0, 1) := by decide +kernel
theorem dX11_feast_56 : decode cX11_feast 56 = .ok (.getfield 93, 3) := by decide +kernel
theorem dX11_feast_59 : decode cX11_feast 59 = .ok (.aload_n 0, 1) := by decide +kernel
theorem dX11_feast_60 : decode cX11_feast 60 = .ok (.getfield 365, 3) := by decide +kernel
theorem dX11_feast_63 : decode cX11_feast 63 = .ok (.iload_n 1, 1) := by decide +kernel
theorem dX11_feast_64 : decode cX11_feast 64 = .ok (.iastore, 1) := by decide +kernel
theorem dX11_feast_65 : decode cX11_feast 65 = .ok (.aload_n 0, 1) := by decide +kernel
theorem dX11_feast_66 : decode cX11_feast 66 = .ok (.getfield 96, 3) := by decide +kernel
theorem dX11_feast_69 : decode cX11_feast 69 = .ok (.aload_n 0, 1) := by decide +kernel
theorem dX11_feast_70 : decode cX11_feast 70 = .ok (.getfield 365, 3) := by decide +kernel
theorem dX11_feast_73 : decode cX11_feast 73 = .ok (.iload_n 2, 1) := by decide +kernel
theorem dX11_feast_74 : decode cX11_feast 74 = .ok (.iastore, 1) := by decide +kernel
theorem dX11_feast_75 : decode cX11_feast 75 = .ok (.aload_n 0, 1) := by decide +kernel
theorem dX11_feast_76 : decode cX11_feast 76 = .ok (.getfield 99, 3) := by decide +kernel
theorem dX11_feast_79 : decode cX11_feast 79 = .ok (.aload_n 0, 1) := by decide +kernel
theorem dX11_feast_80 : decode cX11_feast 80 = .ok (.getfield 365, 3) := by decide +kernel
theorem dX11_feast_83 : decode cX11_feast 83 = .ok (.iload_n 3, 1) := by decide +kernel
theorem dX11_feast_84 : decode cX11_feast 84 = .ok (.iastore, 1) := by decide +kernel
theorem dX11_feast_85 : decode cX11_feast 85 = .ok (.aload_n 0, 1) := by decide +kernel
theorem dX11_feast_86 : decode cX11_feast 86 = .ok (.getfield 102, 3) := by decide +kernel
theorem dX11_feast_89 : decode cX11_feast 89 = .ok (.aload_n 0, 1) := by decide +kernel
theorem dX11_feast_90 : decode cX11_feast 90 = .ok (.getfield 365, 3) := by decide +kernel
theorem dX11_feast_93 : decode cX11_feast 93 = .ok (.iload 4, 2) := by decide +kernel
theorem dX11_feast_95 : decode cX11_feast 95 = .ok (.iastore, 1) := by decide +kernel
theorem dX11_feast_96 : decode cX11_feast 96 = .ok (.aload_n 0, 1) := by decide +kernel
theorem dX11_feast_97 : decode cX11_feast 97 = .ok (.dup, 1) := by decide +kernel
theorem dX11_feast_98 : decode cX11_feast 98 = .ok (.getfield 365, 3) := by decide +kernel
theorem dX11_feast_101 : decode cX11_feast 101 = .ok (.iconst 1, 1) := by decide +kernel
theorem dX11_feast_102 : decode cX11_feast 102 = .ok (.iadd, 1) := by decide +kernel
theorem dX11_feast_103 : decode cX11_feast 103 = .ok (.putfield 365, 3) := by decide +kernel
theorem dX11_feast_106 : decode cX11_feast 106 = .ok (.aload_n 0, 1) := by decide +kernel
theorem dX11_feast_107 : decode cX11_feast 107 = .ok (.getfield 365, 3) := by decide +kernel
theorem dX11_feast_110 : decode cX11_feast 110 = .ok (.iconst 1, 1) := by decide +kernel
theorem dX11_feast_111 : decode cX11_feast 111 = .ok (.isub, 1) := by decide +kernel
theorem dX11_feast_112 : decode cX11_feast 112 = .ok (.ireturn, 1) := by decide +kernel
theorem dX11_cancel_0 : decode cX11_cancel 0 = .ok (.aload_n 0, 1) := by decide +kernel
theorem dX11_cancel_1 : decode cX11_cancel 1 = .ok (.getfield 365, 3) := by decide +kernel
theorem dX11_cancel_4 : decode cX11_cancel 4 = .ok (.ifCond .ne 5, 3) := by decide +kernel
theorem dX11_cancel_7 : decode cX11_cancel 7 = .ok (.iconst 0, 1) := by decide +kernel
theorem dX11_cancel_8 : decode cX11_cancel 8 = .ok (.ireturn, 1) := by decide +kernel
theorem dX11_cancel_9 : decode cX11_cancel 9 = .ok (.aload_n 0, 1) := by decide +kernel
theorem dX11_cancel_10 : decode cX11_cancel 10 = .ok (.dup, 1) := by decide +kernel
theorem dX11_cancel_11 : decode cX11_cancel 11 = .ok (.getfield 365, 3) := by decide +kernel
theorem dX11_cancel_14 : decode cX11_cancel 14 = .ok (.iconst 1, 1) := by decide +kernel
theorem dX11_cancel_15 : decode cX11_cancel 15 = .ok (.isub, 1) := by decide +kernel
theorem dX11_cancel_16 : decode cX11_cancel 16 = .ok (.putfield 365, 3) := by decide +kernel
theorem dX11_cancel_19 : decode cX11_cancel 19 = .ok (.iconst 1, 1) := by decide +kernel
theorem dX11_cancel_20 : decode cX11_cancel 20 = .ok (.ireturn, 1) := by decide +kernel
theorem dX11_canGo_0 : decode cX11_canGo 0 = .ok (.aload_n 0, 1) := by decide +kernel
theorem dX11_canGo_1 : decode cX11_canGo 1 = .ok (.getfield 19, 3) := by decide +kernel
theorem dX11_canGo_4 : decode cX11_canGo 4 = .ok (.bipush 8, 2) := by decide +kernel
theorem dX11_canGo_6 : decode cX11_canGo 6 = .ok (.iload_n 1, 1) := by decide +kernel
theorem dX11_canGo_7 : decode cX11_canGo 7 = .ok (.bipush 61, 2) := by decide +kernel
theorem dX11_canGo_9 : decode cX11_canGo 9 = .ok (.idiv, 1) := by decide +kernel
theorem dX11_canGo_10 : decode cX11_canGo 10 = .ok (.imul, 1) := by decide +kernel
theorem dX11_canGo_11 : decode cX11_canGo 11 = .ok (.aload_n 0, 1) := by decide +kernel
theorem dX11_canGo_12 : decode cX11_canGo 12 = .ok (.getfield 93, 3) := by decide +kernel
theorem dX11_canGo_15 : decode cX11_canGo 15 = .ok (.iload_n 2, 1) := by decide +kernel
theorem dX11_canGo_16 : decode cX11_canGo 16 = .ok (.iaload, 1) := by decide +kernel
theorem dX11_canGo_17 : decode cX11_canGo 17 = .ok (.iadd, 1) := by decide +kernel
theorem dX11_canGo_18 : decode cX11_canGo 18 = .ok (.iaload, 1) := by decide +kernel
theorem dX11_canGo_19 : decode cX11_canGo 19 = .ok (.istore_n 3, 1) := by decide +kernel
theorem dX11_canGo_20 : decode cX11_canGo 20 = .ok (.iload_n 3, 1) := by decide +kernel
theorem dX11_canGo_21 : decode cX11_canGo 21 = .ok (.ifCond .lt 55, 3) := by decide +kernel
theorem dX11_canGo_24 : decode cX11_canGo 24 = .ok (.aload_n 0, 1) := by decide +kernel
theorem dX11_canGo_25 : decode cX11_canGo 25 = .ok (.getfield 332, 3) := by decide +kernel
theorem dX11_canGo_28 : decode cX11_canGo 28 = .ok (.iload_n 3, 1) := by decide +kernel
theorem dX11_canGo_29 : decode cX11_canGo 29 = .ok (.invokestatic 347, 3) := by decide +kernel
theorem dX11_canGo_32 : decode cX11_canGo 32 = .ok (.iadd, 1) := by decide +kernel
theorem dX11_canGo_33 : decode cX11_canGo 33 = .ok (.aload_n 0, 1) := by decide +kernel
theorem dX11_canGo_34 : decode cX11_canGo 34 = .ok (.getfield 96, 3) := by decide +kernel
theorem dX11_canGo_37 : decode cX11_canGo 37 = .ok (.iload_n 2, 1) := by decide +kernel
theorem dX11_canGo_38 : decode cX11_canGo 38 = .ok (.iaload, 1) := by decide +kernel
theorem dX11_canGo_39 : decode cX11_canGo 39 = .ok (.if_icmp .gt 37, 3) := by decide +kernel
theorem dX11_canGo_42 : decode cX11_canGo 42 = .ok (.iload_n 1, 1) := by decide +kernel
theorem dX11_canGo_43 : decode cX11_canGo 43 = .ok (.bipush 61, 2) := by decide +kernel
theorem dX11_canGo_45 : decode cX11_canGo 45 = .ok (.irem, 1) := by decide +kernel
theorem dX11_canGo_46 : decode cX11_canGo 46 = .ok (.aload_n 0, 1) := by decide +kernel
theorem dX11_canGo_47 : decode cX11_canGo 47 = .ok (.getfield 96, 3) := by decide +kernel
theorem dX11_canGo_50 : decode cX11_canGo 50 = .ok (.iload_n 2, 1) := by decide +kernel
theorem dX11_canGo_51 : decode cX11_canGo 51 = .ok (.iaload, 1) := by decide +kernel
theorem dX11_canGo_52 : decode cX11_canGo 52 = .ok (.iadd, 1) := by decide +kernel
theorem dX11_canGo_53 : decode cX11_canGo 53 = .ok (.aload_n 0, 1) := by decide +kernel
theorem dX11_canGo_54 : decode cX11_canGo 54 = .ok (.getfield 332, 3) := by decide +kernel
theorem dX11_canGo_57 : decode cX11_canGo 57 = .ok (.isub, 1) := by decide +kernel
theorem dX11_canGo_58 : decode cX11_canGo 58 = .ok (.aload_n 0, 1) := by decide +kernel
theorem dX11_canGo_59 : decode cX11_canGo 59 = .ok (.getfield 22, 3) := by decide +kernel
theorem dX11_canGo_62 : decode cX11_canGo 62 = .ok (.aload_n 0, 1) := by decide +kernel
theorem dX11_canGo_63 : decode cX11_canGo 63 = .ok (.getfield 99, 3) := by decide +kernel
theorem dX11_canGo_66 : decode cX11_canGo 66 = .ok (.iload_n 2, 1) := by decide +kernel
theorem dX11_canGo_67 : decode cX11_canGo 67 = .ok (.iaload, 1) := by decide +kernel
theorem dX11_canGo_68 : decode cX11_canGo 68 = .ok (.iaload, 1) := by decide +kernel
theorem dX11_canGo_69 : decode cX11_canGo 69 = .ok (.if_icmp .gt 7, 3) := by decide +kernel
theorem dX11_canGo_72 : decode cX11_canGo 72 = .ok (.iconst 1, 1) := by decide +kernel
theorem dX11_canGo_73 : decode cX11_canGo 73 = .ok (.goto 4, 3) := by decide +kernel
theorem dX11_canGo_76 : decode cX11_canGo 76 = .ok (.iconst 0, 1) := by decide +kernel
theorem dX11_canGo_77 : decode cX11_canGo 77 = .ok (.ireturn, 1) := by decide +kernel
theorem dX11_daysOf_0 : decode cX11_daysOf 0 = .ok (.aload_n 0, 1) := by decide +kernel
theorem dX11_daysOf_1 : decode cX11_daysOf 1 = .ok (.getfield 19, 3) := by decide +kernel
theorem dX11_daysOf_4 : decode cX11_daysOf 4 = .ok (.bipush 8, 2) := by decide +kernel
theorem dX11_daysOf_6 : decode cX11_daysOf 6 = .ok (.iload_n 1, 1) := by decide +kernel
theorem dX11_daysOf_7 : decode cX11_daysOf 7 = .ok (.bipush 61, 2) := by decide +kernel
theorem dX11_daysOf_9 : decode cX11_daysOf 9 = .ok (.idiv, 1) := by decide +kernel
theorem dX11_daysOf_10 : decode cX11_daysOf 10 = .ok (.imul, 1) := by decide +kernel
theorem dX11_daysOf_11 : decode cX11_daysOf 11 = .ok (.aload_n 0, 1) := by decide +kernel
theorem dX11_daysOf_12 : decode cX11_daysOf 12 = .ok (.getfield 93, 3) := by decide +kernel
theorem dX11_daysOf_15 : decode cX11_daysOf 15 = .ok (.iload_n 2, 1) := by decide +kernel
theorem dX11_daysOf_16 : decode cX11_daysOf 16 = .ok (.iaload, 1) := by decide +kernel
theorem dX11_daysOf_17 : decode cX11_daysOf 17 = .ok (.iadd, 1) := by decide +kernel
theorem dX11_daysOf_18 : decode cX11_daysOf 18 = .ok (.iaload, 1) := by decide +kernel
theorem dX11_daysOf_19 : decode cX11_daysOf 19 = .ok (.ireturn, 1) := by decide +kernel
theorem dX11_feedAll_0 : decode cX11_feedAll 0 = .ok (.aload_n 0, 1) := by decide +kernel
theorem dX11_feedAll_1 : decode cX11_feedAll 1 = .ok (.iconst 0, 1) := by decide +kernel
theorem dX11_feedAll_2 : decode cX11_feedAll 2 = .ok (.putfield 368, 3) := by decide +kernel
theorem dX11_feedAll_5 : decode cX11_feedAll 5 = .ok (.aload_n 0, 1) := by decide +kernel
theorem dX11_feedAll_6 : decode cX11_feedAll 6 = .ok (.iconst 0, 1) := by decide +kernel
theorem dX11_feedAll_7 : decode cX11_feedAll 7 = .ok (.putfield 371, 3) := by decide +kernel
theorem dX11_feedAll_10 : decode cX11_feedAll 10 = .ok (.iconst 0, 1) := by decide +kernel
theorem dX11_feedAll_11 : decode cX11_feedAll 11 = .ok (.istore_n 1, 1) := by decide +kernel
theorem dX11_feedAll_12 : decode cX11_feedAll 12 = .ok (.iload_n 1, 1) := by decide +kernel
theorem dX11_feedAll_13 : decode cX11_feedAll 13 = .ok (.iconst 3, 1) := by decide +kernel
theorem dX11_feedAll_14 : decode cX11_feedAll 14 = .ok (.if_icmp .ge 134, 3) := by decide +kernel
theorem dX11_feedAll_17 : decode cX11_feedAll 17 = .ok (.iconst 0, 1) := by decide +kernel
theorem dX11_feedAll_18 : decode cX11_feedAll 18 = .ok (.istore_n 2, 1) := by decide +kernel
theorem dX11_feedAll_19 : decode cX11_feedAll 19 = .ok (.iload_n 2, 1) := by decide +kernel
theorem dX11_feedAll_20 : decode cX11_feedAll 20 = .ok (.bipush 61, 2) := by decide +kernel
theorem dX11_feedAll_22 : decode cX11_feedAll 22 = .ok (.aload_n 0, 1) := by decide +kernel
theorem dX11_feedAll_23 : decode cX11_feedAll 23 = .ok (.getfield 153, 3) := by decide +kernel
theorem dX11_feedAll_26 : decode cX11_feedAll 26 = .ok (.imul, 1) := by decide +kernel
theorem dX11_feedAll_27 : decode cX11_feedAll 27 = .ok (.if_icmp .ge 58, 3) := by decide +kernel
theorem dX11_feedAll_30 : decode cX11_feedAll 30 = .ok (.aload_n 0, 1) := by decide +kernel
theorem dX11_feedAll_31 : decode cX11_feedAll 31 = .ok (.getfield 105, 3) := by decide +kernel
theorem dX11_feedAll_34 : decode cX11_feedAll 34 = .ok (.iload_n 2, 1) := by decide +kernel
theorem dX11_feedAll_35 : decode cX11_feedAll 35 = .ok (.aload_n 0, 1) := by decide +kernel
theorem dX11_feedAll_36 : decode cX11_feedAll 36 = .ok (.getfield 25, 3) := by decide +kernel
theorem dX11_feedAll_39 : decode cX11_feedAll 39 = .ok (.iload_n 2, 1) := by decide +kernel
theorem dX11_feedAll_40 : decode cX11_feedAll 40 = .ok (.bipush 61, 2) := by decide +kernel
theorem dX11_feedAll_42 : decode cX11_feedAll 42 = .ok (.idiv, 1) := by decide +kernel
theorem dX11_feedAll_43 : decode cX11_feedAll 43 = .ok (.iload_n 1, 1) := by decide +kernel
theorem dX11_feedAll_44 : decode cX11_feedAll 44 = .ok (.iload_n 2, 1) := by decide +kernel
theorem dX11_feedAll_45 : decode cX11_feedAll 45 = .ok (.bipush 61, 2) := by decide +kernel
theorem dX11_feedAll_47 : decode cX11_feedAll 47 = .ok (.irem, 1) := by decide +kernel
theorem dX11_feedAll_48 : decode cX11_feedAll 48 = .ok (.invokestatic 164, 3) := by decide +kernel
theorem dX11_feedAll_51 : decode cX11_feedAll 51 = .ok (.iaload, 1) := by decide +kernel
theorem dX11_feedAll_52 : decode cX11_feedAll 52 = .ok (.iastore, 1) := by decide +kernel
theorem dX11_feedAll_53 : decode cX11_feedAll 53 = .ok (.iconst 0, 1) := by decide +kernel
theorem dX11_feedAll_54 : decode cX11_feedAll 54 = .ok (.istore_n 3, 1) := by decide +kernel
theorem dX11_feedAll_55 : decode cX11_feedAll 55 = .ok (.iload_n 3, 1) := by decide +kernel
theorem dX11_feedAll_56 : decode cX11_feedAll 56 = .ok (.bipush 10, 2) := by decide +kernel
theorem dX11_feedAll_58 : decode cX11_feedAll 58 = .ok (.if_icmp .ge 21, 3) := by decide +kernel
theorem dX11_feedAll_61 : decode cX11_feedAll 61 = .ok (.aload_n 0, 1) := by decide +kernel
theorem dX11_feedAll_62 : decode cX11_feedAll 62 = .ok (.getfield 108, 3) := by decide +kernel
theorem dX11_feedAll_65 : decode cX11_feedAll 65 = .ok (.bipush 10, 2) := by decide +kernel
theorem dX11_feedAll_67 : decode cX11_feedAll 67 = .ok (.iload_n 2, 1) := by decide +kernel
theorem dX11_feedAll_68 : decode cX11_feedAll 68 = .ok (.imul, 1) := by decide +kernel
theorem dX11_feedAll_69 : decode cX11_feedAll 69 = .ok (.iload_n 3, 1) := by decide +kernel
theorem dX11_feedAll_70 : decode cX11_feedAll 70 = .ok (.iadd, 1) := by decide +kernel
theorem dX11_feedAll_71 : decode cX11_feedAll 71 = .ok (.iconst 0, 1) := by decide +kernel
end
section
theorem dX11_feedAll_72 : decode cX11_feedAll 72 = .ok (.iastore, 1) := by decide +kernel
theorem dX11_feedAll_73 : decode cX11_feedAll 73 = .ok (.iinc 3 1, 3) := by decide +kernel
theorem dX11_feedAll_76 : decode cX11_feedAll 76 = .ok (.goto (-21), 3) := by decide +kernel
theorem dX11_feedAll_79 : decode cX11_feedAll 79 = .ok (.iinc 2 1, 3) := by decide +kernel
theorem dX11_feedAll_82 : decode cX11_feedAll 82 = .ok (.goto (-63), 3) := by decide +kernel
theorem dX11_feedAll_85 : decode cX11_feedAll 85 = .ok (.iconst 0, 1) := by decide +kernel
theorem dX11_feedAll_86 : decode cX11_feedAll 86 = .ok (.istore_n 2, 1) := by decide +kernel
theorem dX11_feedAll_87 : decode cX11_feedAll 87 = .ok (.iload_n 2, 1) := by decide +kernel
theorem dX11_feedAll_88 : decode cX11_feedAll 88 = .ok (.aload_n 0, 1) := by decide +kernel
theorem dX11_feedAll_89 : decode cX11_feedAll 89 = .ok (.getfield 365, 3) := by decide +kernel
theorem dX11_feedAll_92 : decode cX11_feedAll 92 = .ok (.if_icmp .ge 35, 3) := by decide +kernel
theorem dX11_feedAll_95 : decode cX11_feedAll 95 = .ok (.aload_n 0, 1) := by decide +kernel
theorem dX11_feedAll_96 : decode cX11_feedAll 96 = .ok (.getfield 111, 3) := by decide +kernel
theorem dX11_feedAll_99 : decode cX11_feedAll 99 = .ok (.iload_n 2, 1) := by decide +kernel
theorem dX11_feedAll_100 : decode cX11_feedAll 100 = .ok (.aload_n 0, 1) := by decide +kernel
theorem dX11_feedAll_101 : decode cX11_feedAll 101 = .ok (.getfield 99, 3) := by decide +kernel
theorem dX11_feedAll_104 : decode cX11_feedAll 104 = .ok (.iload_n 2, 1) := by decide +kernel
theorem dX11_feedAll_105 : decode cX11_feedAll 105 = .ok (.iaload, 1) := by decide +kernel
theorem dX11_feedAll_106 : decode cX11_feedAll 106 = .ok (.iload_n 1, 1) := by decide +kernel
theorem dX11_feedAll_107 : decode cX11_feedAll 107 = .ok (.if_icmp .ne 12, 3) := by decide +kernel
theorem dX11_feedAll_110 : decode cX11_feedAll 110 = .ok (.aload_n 0, 1) := by decide +kernel
theorem dX11_feedAll_111 : decode cX11_feedAll 111 = .ok (.getfield 102, 3) := by decide +kernel
theorem dX11_feedAll_114 : decode cX11_feedAll 114 = .ok (.iload_n 2, 1) := by decide +kernel
theorem dX11_feedAll_115 : decode cX11_feedAll 115 = .ok (.iaload, 1) := by decide +kernel
theorem dX11_feedAll_116 : decode cX11_feedAll 116 = .ok (.goto 4, 3) := by decide +kernel
theorem dX11_feedAll_119 : decode cX11_feedAll 119 = .ok (.iconst 0, 1) := by decide +kernel
theorem dX11_feedAll_120 : decode cX11_feedAll 120 = .ok (.iastore, 1) := by decide +kernel
theorem dX11_feedAll_121 : decode cX11_feedAll 121 = .ok (.iinc 2 1, 3) := by decide +kernel
theorem dX11_feedAll_124 : decode cX11_feedAll 124 = .ok (.goto (-37), 3) := by decide +kernel
theorem dX11_feedAll_127 : decode cX11_feedAll 127 = .ok (.iconst 1, 1) := by decide +kernel
theorem dX11_feedAll_128 : decode cX11_feedAll 128 = .ok (.istore_n 2, 1) := by decide +kernel
theorem dX11_feedAll_129 : decode cX11_feedAll 129 = .ok (.iload_n 2, 1) := by decide +kernel
theorem dX11_feedAll_130 : decode cX11_feedAll 130 = .ok (.ifCond .eq 12, 3) := by decide +kernel
theorem dX11_feedAll_133 : decode cX11_feedAll 133 = .ok (.aload_n 0, 1) := by decide +kernel
theorem dX11_feedAll_134 : decode cX11_feedAll 134 = .ok (.iload_n 1, 1) := by decide +kernel
theorem dX11_feedAll_135 : decode cX11_feedAll 135 = .ok (.invokevirtual 374, 3) := by decide +kernel
theorem dX11_feedAll_138 : decode cX11_feedAll 138 = .ok (.istore_n 2, 1) := by decide +kernel
theorem dX11_feedAll_139 : decode cX11_feedAll 139 = .ok (.goto (-10), 3) := by decide +kernel
theorem dX11_feedAll_142 : decode cX11_feedAll 142 = .ok (.iinc 1 1, 3) := by decide +kernel
theorem dX11_feedAll_145 : decode cX11_feedAll 145 = .ok (.goto (-133), 3) := by decide +kernel
theorem dX11_feedAll_148 : decode cX11_feedAll 148 = .ok (.return_, 1) := by decide +kernel
theorem dX11_measure_0 : decode cX11_measure 0 = .ok (.iconst 0, 1) := by decide +kernel
theorem dX11_measure_1 : decode cX11_measure 1 = .ok (.istore_n 2, 1) := by decide +kernel
theorem dX11_measure_2 : decode cX11_measure 2 = .ok (.iload_n 2, 1) := by decide +kernel
theorem dX11_measure_3 : decode cX11_measure 3 = .ok (.bipush 61, 2) := by decide +kernel
theorem dX11_measure_5 : decode cX11_measure 5 = .ok (.aload_n 0, 1) := by decide +kernel
theorem dX11_measure_6 : decode cX11_measure 6 = .ok (.getfield 153, 3) := by decide +kernel
theorem dX11_measure_9 : decode cX11_measure 9 = .ok (.imul, 1) := by decide +kernel
theorem dX11_measure_10 : decode cX11_measure 10 = .ok (.if_icmp .ge 38, 3) := by decide +kernel
theorem dX11_measure_13 : decode cX11_measure 13 = .ok (.aload_n 0, 1) := by decide +kernel
theorem dX11_measure_14 : decode cX11_measure 14 = .ok (.getfield 114, 3) := by decide +kernel
theorem dX11_measure_17 : decode cX11_measure 17 = .ok (.iload_n 2, 1) := by decide +kernel
theorem dX11_measure_18 : decode cX11_measure 18 = .ok (.aload_n 0, 1) := by decide +kernel
theorem dX11_measure_19 : decode cX11_measure 19 = .ok (.getfield 105, 3) := by decide +kernel
theorem dX11_measure_22 : decode cX11_measure 22 = .ok (.iload_n 2, 1) := by decide +kernel
theorem dX11_measure_23 : decode cX11_measure 23 = .ok (.iaload, 1) := by decide +kernel
theorem dX11_measure_24 : decode cX11_measure 24 = .ok (.ifCond .le 7, 3) := by decide +kernel
theorem dX11_measure_27 : decode cX11_measure 27 = .ok (.iconst 0, 1) := by decide +kernel
theorem dX11_measure_28 : decode cX11_measure 28 = .ok (.goto 6, 3) := by decide +kernel
theorem dX11_measure_31 : decode cX11_measure 31 = .ok (.ldc_w 377, 3) := by decide +kernel
theorem dX11_measure_34 : decode cX11_measure 34 = .ok (.iastore, 1) := by decide +kernel
theorem dX11_measure_35 : decode cX11_measure 35 = .ok (.aload_n 0, 1) := by decide +kernel
theorem dX11_measure_36 : decode cX11_measure 36 = .ok (.getfield 120, 3) := by decide +kernel
theorem dX11_measure_39 : decode cX11_measure 39 = .ok (.iload_n 2, 1) := by decide +kernel
theorem dX11_measure_40 : decode cX11_measure 40 = .ok (.iconst (-1), 1) := by decide +kernel
theorem dX11_measure_41 : decode cX11_measure 41 = .ok (.iastore, 1) := by decide +kernel
theorem dX11_measure_42 : decode cX11_measure 42 = .ok (.iinc 2 1, 3) := by decide +kernel
theorem dX11_measure_45 : decode cX11_measure 45 = .ok (.goto (-43), 3) := by decide +kernel
theorem dX11_measure_48 : decode cX11_measure 48 = .ok (.iconst 0, 1) := by decide +kernel
theorem dX11_measure_49 : decode cX11_measure 49 = .ok (.istore_n 2, 1) := by decide +kernel
theorem dX11_measure_50 : decode cX11_measure 50 = .ok (.iload_n 2, 1) := by decide +kernel
theorem dX11_measure_51 : decode cX11_measure 51 = .ok (.aload_n 0, 1) := by decide +kernel
theorem dX11_measure_52 : decode cX11_measure 52 = .ok (.getfield 365, 3) := by decide +kernel
theorem dX11_measure_55 : decode cX11_measure 55 = .ok (.if_icmp .ge 18, 3) := by decide +kernel
theorem dX11_measure_58 : decode cX11_measure 58 = .ok (.aload_n 0, 1) := by decide +kernel
theorem dX11_measure_59 : decode cX11_measure 59 = .ok (.getfield 117, 3) := by decide +kernel
theorem dX11_measure_62 : decode cX11_measure 62 = .ok (.iload_n 2, 1) := by decide +kernel
theorem dX11_measure_63 : decode cX11_measure 63 = .ok (.ldc_w 377, 3) := by decide +kernel
theorem dX11_measure_66 : decode cX11_measure 66 = .ok (.iastore, 1) := by decide +kernel
theorem dX11_measure_67 : decode cX11_measure 67 = .ok (.iinc 2 1, 3) := by decide +kernel
theorem dX11_measure_70 : decode cX11_measure 70 = .ok (.goto (-20), 3) := by decide +kernel
theorem dX11_measure_73 : decode cX11_measure 73 = .ok (.iconst 1, 1) := by decide +kernel
theorem dX11_measure_74 : decode cX11_measure 74 = .ok (.istore_n 2, 1) := by decide +kernel
theorem dX11_measure_75 : decode cX11_measure 75 = .ok (.iload_n 2, 1) := by decide +kernel
theorem dX11_measure_76 : decode cX11_measure 76 = .ok (.ifCond .eq 52, 3) := by decide +kernel
theorem dX11_measure_79 : decode cX11_measure 79 = .ok (.iconst 0, 1) := by decide +kernel
theorem dX11_measure_80 : decode cX11_measure 80 = .ok (.istore_n 2, 1) := by decide +kernel
theorem dX11_measure_81 : decode cX11_measure 81 = .ok (.iconst 0, 1) := by decide +kernel
theorem dX11_measure_82 : decode cX11_measure 82 = .ok (.istore_n 3, 1) := by decide +kernel
theorem dX11_measure_83 : decode cX11_measure 83 = .ok (.iload_n 3, 1) := by decide +kernel
theorem dX11_measure_84 : decode cX11_measure 84 = .ok (.aload_n 0, 1) := by decide +kernel
theorem dX11_measure_85 : decode cX11_measure 85 = .ok (.getfield 365, 3) := by decide +kernel
theorem dX11_measure_88 : decode cX11_measure 88 = .ok (.if_icmp .ge 37, 3) := by decide +kernel
theorem dX11_measure_91 : decode cX11_measure 91 = .ok (.aload_n 0, 1) := by decide +kernel
theorem dX11_measure_92 : decode cX11_measure 92 = .ok (.getfield 99, 3) := by decide +kernel
theorem dX11_measure_95 : decode cX11_measure 95 = .ok (.iload_n 3, 1) := by decide +kernel
theorem dX11_measure_96 : decode cX11_measure 96 = .ok (.iaload, 1) := by decide +kernel
theorem dX11_measure_97 : decode cX11_measure 97 = .ok (.iload_n 1, 1) := by decide +kernel
theorem dX11_measure_98 : decode cX11_measure 98 = .ok (.if_icmp .ne 21, 3) := by decide +kernel
theorem dX11_measure_101 : decode cX11_measure 101 = .ok (.aload_n 0, 1) := by decide +kernel
theorem dX11_measure_102 : decode cX11_measure 102 = .ok (.iload_n 3, 1) := by decide +kernel
theorem dX11_measure_103 : decode cX11_measure 103 = .ok (.invokevirtual 378, 3) := by decide +kernel
theorem dX11_measure_106 : decode cX11_measure 106 = .ok (.ifCond .ne 7, 3) := by decide +kernel
theorem dX11_measure_109 : decode cX11_measure 109 = .ok (.iload_n 2, 1) := by decide +kernel
theorem dX11_measure_110 : decode cX11_measure 110 = .ok (.ifCond .eq 7, 3) := by decide +kernel
theorem dX11_measure_113 : decode cX11_measure 113 = .ok (.iconst 1, 1) := by decide +kernel
theorem dX11_measure_114 : decode cX11_measure 114 = .ok (.goto 4, 3) := by decide +kernel
theorem dX11_measure_117 : decode cX11_measure 117 = .ok (.iconst 0, 1) := by decide +kernel
theorem dX11_measure_118 : decode cX11_measure 118 = .ok (.istore_n 2, 1) := by decide +kernel
theorem dX11_measure_119 : decode cX11_measure 119 = .ok (.iinc 3 1, 3) := by decide +kernel
theorem dX11_measure_122 : decode cX11_measure 122 = .ok (.goto (-39), 3) := by decide +kernel
theorem dX11_measure_125 : decode cX11_measure 125 = .ok (.goto (-50), 3) := by decide +kernel
theorem dX11_measure_128 : decode cX11_measure 128 = .ok (.return_, 1) := by decide +kernel
theorem dX11_nearer_0 : decode cX11_nearer 0 = .ok (.iconst 0, 1) := by decide +kernel
theorem dX11_nearer_1 : decode cX11_nearer 1 = .ok (.istore_n 2, 1) := by decide +kernel
theorem dX11_nearer_2 : decode cX11_nearer 2 = .ok (.iconst 0, 1) := by decide +kernel
theorem dX11_nearer_3 : decode cX11_nearer 3 = .ok (.istore_n 3, 1) := by decide +kernel
theorem dX11_nearer_4 : decode cX11_nearer 4 = .ok (.iload_n 3, 1) := by decide +kernel
theorem dX11_nearer_5 : decode cX11_nearer 5 = .ok (.bipush 61, 2) := by decide +kernel
theorem dX11_nearer_7 : decode cX11_nearer 7 = .ok (.aload_n 0, 1) := by decide +kernel
theorem dX11_nearer_8 : decode cX11_nearer 8 = .ok (.getfield 153, 3) := by decide +kernel
theorem dX11_nearer_11 : decode cX11_nearer 11 = .ok (.imul, 1) := by decide +kernel
theorem dX11_nearer_12 : decode cX11_nearer 12 = .ok (.if_icmp .ge 83, 3) := by decide +kernel
theorem dX11_nearer_15 : decode cX11_nearer 15 = .ok (.aload_n 0, 1) := by decide +kernel
theorem dX11_nearer_16 : decode cX11_nearer 16 = .ok (.getfield 114, 3) := by decide +kernel
theorem dX11_nearer_19 : decode cX11_nearer 19 = .ok (.iload_n 3, 1) := by decide +kernel
theorem dX11_nearer_20 : decode cX11_nearer 20 = .ok (.iaload, 1) := by decide +kernel
theorem dX11_nearer_21 : decode cX11_nearer 21 = .ok (.ldc_w 377, 3) := by decide +kernel
theorem dX11_nearer_24 : decode cX11_nearer 24 = .ok (.if_icmp .ge 65, 3) := by decide +kernel
theorem dX11_nearer_27 : decode cX11_nearer 27 = .ok (.aload_n 0, 1) := by decide +kernel
theorem dX11_nearer_28 : decode cX11_nearer 28 = .ok (.iload_n 3, 1) := by decide +kernel
theorem dX11_nearer_29 : decode cX11_nearer 29 = .ok (.iload_n 1, 1) := by decide +kernel
theorem dX11_nearer_30 : decode cX11_nearer 30 = .ok (.invokevirtual 381, 3) := by decide +kernel
theorem dX11_nearer_33 : decode cX11_nearer 33 = .ok (.ifCond .eq 56, 3) := by decide +kernel
theorem dX11_nearer_36 : decode cX11_nearer 36 = .ok (.aload_n 0, 1) := by decide +kernel
theorem dX11_nearer_37 : decode cX11_nearer 37 = .ok (.getfield 114, 3) := by decide +kernel
theorem dX11_nearer_40 : decode cX11_nearer 40 = .ok (.iload_n 3, 1) := by decide +kernel
theorem dX11_nearer_41 : decode cX11_nearer 41 = .ok (.iaload, 1) := by decide +kernel
theorem dX11_nearer_42 : decode cX11_nearer 42 = .ok (.aload_n 0, 1) := by decide +kernel
theorem dX11_nearer_43 : decode cX11_nearer 43 = .ok (.iload_n 3, 1) := by decide +kernel
theorem dX11_nearer_44 : decode cX11_nearer 44 = .ok (.iload_n 1, 1) := by decide +kernel
theorem dX11_nearer_45 : decode cX11_nearer 45 = .ok (.invokevirtual 385, 3) := by decide +kernel
theorem dX11_nearer_48 : decode cX11_nearer 48 = .ok (.iadd, 1) := by decide +kernel
theorem dX11_nearer_49 : decode cX11_nearer 49 = .ok (.aload_n 0, 1) := by decide +kernel
theorem dX11_nearer_50 : decode cX11_nearer 50 = .ok (.getfield 117, 3) := by decide +kernel
theorem dX11_nearer_53 : decode cX11_nearer 53 = .ok (.iload_n 1, 1) := by decide +kernel
theorem dX11_nearer_54 : decode cX11_nearer 54 = .ok (.iaload, 1) := by decide +kernel
theorem dX11_nearer_55 : decode cX11_nearer 55 = .ok (.if_icmp .lt 6, 3) := by decide +kernel
theorem dX11_nearer_58 : decode cX11_nearer 58 = .ok (.goto 31, 3) := by decide +kernel
theorem dX11_nearer_61 : decode cX11_nearer 61 = .ok (.aload_n 0, 1) := by decide +kernel
theorem dX11_nearer_62 : decode cX11_nearer 62 = .ok (.getfield 117, 3) := by decide +kernel
theorem dX11_nearer_65 : decode cX11_nearer 65 = .ok (.iload_n 1, 1) := by decide +kernel
theorem dX11_nearer_66 : decode cX11_nearer 66 = .ok (.aload_n 0, 1) := by decide +kernel
theorem dX11_nearer_67 : decode cX11_nearer 67 = .ok (.getfield 114, 3) := by decide +kernel
theorem dX11_nearer_70 : decode cX11_nearer 70 = .ok (.iload_n 3, 1) := by decide +kernel
theorem dX11_nearer_71 : decode cX11_nearer 71 = .ok (.iaload, 1) := by decide +kernel
theorem dX11_nearer_72 : decode cX11_nearer 72 = .ok (.aload_n 0, 1) := by decide +kernel
theorem dX11_nearer_73 : decode cX11_nearer 73 = .ok (.iload_n 3, 1) := by decide +kernel
theorem dX11_nearer_74 : decode cX11_nearer 74 = .ok (.iload_n 1, 1) := by decide +kernel
theorem dX11_nearer_75 : decode cX11_nearer 75 = .ok (.invokevirtual 385, 3) := by decide +kernel
theorem dX11_nearer_78 : decode cX11_nearer 78 = .ok (.iadd, 1) := by decide +kernel
theorem dX11_nearer_79 : decode cX11_nearer 79 = .ok (.iastore, 1) := by decide +kernel
theorem dX11_nearer_80 : decode cX11_nearer 80 = .ok (.aload_n 0, 1) := by decide +kernel
theorem dX11_nearer_81 : decode cX11_nearer 81 = .ok (.getfield 123, 3) := by decide +kernel
theorem dX11_nearer_84 : decode cX11_nearer 84 = .ok (.iload_n 1, 1) := by decide +kernel
theorem dX11_nearer_85 : decode cX11_nearer 85 = .ok (.iload_n 3, 1) := by decide +kernel
theorem dX11_nearer_86 : decode cX11_nearer 86 = .ok (.iastore, 1) := by decide +kernel
theorem dX11_nearer_87 : decode cX11_nearer 87 = .ok (.iconst 1, 1) := by decide +kernel
theorem dX11_nearer_88 : decode cX11_nearer 88 = .ok (.istore_n 2, 1) := by decide +kernel
theorem dX11_nearer_89 : decode cX11_nearer 89 = .ok (.iinc 3 1, 3) := by decide +kernel
theorem dX11_nearer_92 : decode cX11_nearer 92 = .ok (.goto (-88), 3) := by decide +kernel
theorem dX11_nearer_95 : decode cX11_nearer 95 = .ok (.iconst 0, 1) := by decide +kernel
theorem dX11_nearer_96 : decode cX11_nearer 96 = .ok (.istore_n 3, 1) := by decide +kernel
theorem dX11_nearer_97 : decode cX11_nearer 97 = .ok (.iload_n 3, 1) := by decide +kernel
theorem dX11_nearer_98 : decode cX11_nearer 98 = .ok (.bipush 61, 2) := by decide +kernel
theorem dX11_nearer_100 : decode cX11_nearer 100 = .ok (.aload_n 0, 1) := by decide +kernel
theorem dX11_nearer_101 : decode cX11_nearer 101 = .ok (.getfield 153, 3) := by decide +kernel
theorem dX11_nearer_104 : decode cX11_nearer 104 = .ok (.imul, 1) := by decide +kernel
theorem dX11_nearer_105 : decode cX11_nearer 105 = .ok (.if_icmp .ge 76, 3) := by decide +kernel
theorem dX11_nearer_108 : decode cX11_nearer 108 = .ok (.aload_n 0, 1) := by decide +kernel
theorem dX11_nearer_109 : decode cX11_nearer 109 = .ok (.getfield 108, 3) := by decide +kernel
theorem dX11_nearer_112 : decode cX11_nearer 112 = .ok (.bipush 10, 2) := by decide +kernel
theorem dX11_nearer_114 : decode cX11_nearer 114 = .ok (.iload_n 3, 1) := by decide +kernel
theorem dX11_nearer_115 : decode cX11_nearer 115 = .ok (.imul, 1) := by decide +kernel
theorem dX11_nearer_116 : decode cX11_nearer 116 = .ok (.iload_n 1, 1) := by decide +kernel
theorem dX11_nearer_117 : decode cX11_nearer 117 = .ok (.iadd, 1) := by decide +kernel
theorem dX11_nearer_118 : decode cX11_nearer 118 = .ok (.iaload, 1) := by decide +kernel
theorem dX11_nearer_119 : decode cX11_nearer 119 = .ok (.ifCond .eq 56, 3) := by decide +kernel
theorem dX11_nearer_122 : decode cX11_nearer 122 = .ok (.aload_n 0, 1) := by decide +kernel
theorem dX11_nearer_123 : decode cX11_nearer 123 = .ok (.getfield 117, 3) := by decide +kernel
theorem dX11_nearer_126 : decode cX11_nearer 126 = .ok (.iload_n 1, 1) := by decide +kernel
theorem dX11_nearer_127 : decode cX11_nearer 127 = .ok (.iaload, 1) := by decide +kernel
theorem dX11_nearer_128 : decode cX11_nearer 128 = .ok (.aload_n 0, 1) := by decide +kernel
theorem dX11_nearer_129 : decode cX11_nearer 129 = .ok (.iload_n 3, 1) := by decide +kernel
theorem dX11_nearer_130 : decode cX11_nearer 130 = .ok (.iload_n 1, 1) := by decide +kernel
theorem dX11_nearer_131 : decode cX11_nearer 131 = .ok (.invokevirtual 385, 3) := by decide +kernel
theorem dX11_nearer_134 : decode cX11_nearer 134 = .ok (.isub, 1) := by decide +kernel
theorem dX11_nearer_135 : decode cX11_nearer 135 = .ok (.aload_n 0, 1) := by decide +kernel
theorem dX11_nearer_136 : decode cX11_nearer 136 = .ok (.getfield 114, 3) := by decide +kernel
theorem dX11_nearer_139 : decode cX11_nearer 139 = .ok (.iload_n 3, 1) := by decide +kernel
theorem dX11_nearer_140 : decode cX11_nearer 140 = .ok (.iaload, 1) := by decide +kernel
theorem dX11_nearer_141 : decode cX11_nearer 141 = .ok (.if_icmp .lt 6, 3) := by decide +kernel
theorem dX11_nearer_144 : decode cX11_nearer 144 = .ok (.goto 31, 3) := by decide +kernel
theorem dX11_nearer_147 : decode cX11_nearer 147 = .ok (.aload_n 0, 1) := by decide +kernel
theorem dX11_nearer_148 : decode cX11_nearer 148 = .ok (.getfield 114, 3) := by decide +kernel
theorem dX11_nearer_151 : decode cX11_nearer 151 = .ok (.iload_n 3, 1) := by decide +kernel
theorem dX11_nearer_152 : decode cX11_nearer 152 = .ok (.aload_n 0, 1) := by decide +kernel
theorem dX11_nearer_153 : decode cX11_nearer 153 = .ok (.getfield 117, 3) := by decide +kernel
theorem dX11_nearer_156 : decode cX11_nearer 156 = .ok (.iload_n 1, 1) := by decide +kernel
theorem dX11_nearer_157 : decode cX11_nearer 157 = .ok (.iaload, 1) := by decide +kernel
theorem dX11_nearer_158 : decode cX11_nearer 158 = .ok (.aload_n 0, 1) := by decide +kernel
theorem dX11_nearer_159 : decode cX11_nearer 159 = .ok (.iload_n 3, 1) := by decide +kernel
theorem dX11_nearer_160 : decode cX11_nearer 160 = .ok (.iload_n 1, 1) := by decide +kernel
theorem dX11_nearer_161 : decode cX11_nearer 161 = .ok (.invokevirtual 385, 3) := by decide +kernel
theorem dX11_nearer_164 : decode cX11_nearer 164 = .ok (.isub, 1) := by decide +kernel
theorem dX11_nearer_165 : decode cX11_nearer 165 = .ok (.iastore, 1) := by decide +kernel
theorem dX11_nearer_166 : decode cX11_nearer 166 = .ok (.aload_n 0, 1) := by decide +kernel
theorem dX11_nearer_167 : decode cX11_nearer 167 = .ok (.getfield 120, 3) := by decide +kernel
theorem dX11_nearer_170 : decode cX11_nearer 170 = .ok (.iload_n 3, 1) := by decide +kernel
theorem dX11_nearer_171 : decode cX11_nearer 171 = .ok (.iload_n 1, 1) := by decide +kernel
theorem dX11_nearer_172 : decode cX11_nearer 172 = .ok (.iastore, 1) := by decide +kernel
theorem dX11_nearer_173 : decode cX11_nearer 173 = .ok (.iconst 1, 1) := by decide +kernel
theorem dX11_nearer_174 : decode cX11_nearer 174 = .ok (.istore_n 2, 1) := by decide +kernel
theorem dX11_nearer_175 : decode cX11_nearer 175 = .ok (.iinc 3 1, 3) := by decide +kernel
theorem dX11_nearer_178 : decode cX11_nearer 178 = .ok (.goto (-81), 3) := by decide +kernel
theorem dX11_nearer_181 : decode cX11_nearer 181 = .ok (.iload_n 2, 1) := by decide +kernel
theorem dX11_nearer_182 : decode cX11_nearer 182 = .ok (.ireturn, 1) := by decide +kernel
theorem dX11_giveMore_0 : decode cX11_giveMore 0 = .ok (.aload_n 0, 1) := by decide +kernel
theorem dX11_giveMore_1 : decode cX11_giveMore 1 = .ok (.iload_n 1, 1) := by decide +kernel
theorem dX11_giveMore_2 : decode cX11_giveMore 2 = .ok (.invokevirtual 388, 3) := by decide +kernel
theorem dX11_giveMore_5 : decode cX11_giveMore 5 = .ok (.iconst (-1), 1) := by decide +kernel
theorem dX11_giveMore_6 : decode cX11_giveMore 6 = .ok (.istore_n 2, 1) := by decide +kernel
theorem dX11_giveMore_7 : decode cX11_giveMore 7 = .ok (.iconst 0, 1) := by decide +kernel
theorem dX11_giveMore_8 : decode cX11_giveMore 8 = .ok (.istore_n 3, 1) := by decide +kernel
theorem dX11_giveMore_9 : decode cX11_giveMore 9 = .ok (.iload_n 3, 1) := by decide +kernel
theorem dX11_giveMore_10 : decode cX11_giveMore 10 = .ok (.aload_n 0, 1) := by decide +kernel
theorem dX11_giveMore_11 : decode cX11_giveMore 11 = .ok (.getfield 365, 3) := by decide +kernel
theorem dX11_giveMore_14 : decode cX11_giveMore 14 = .ok (.if_icmp .ge 61, 3) := by decide +kernel
theorem dX11_giveMore_17 : decode cX11_giveMore 17 = .ok (.aload_n 0, 1) := by decide +kernel
theorem dX11_giveMore_18 : decode cX11_giveMore 18 = .ok (.getfield 99, 3) := by decide +kernel
theorem dX11_giveMore_21 : decode cX11_giveMore 21 = .ok (.iload_n 3, 1) := by decide +kernel
theorem dX11_giveMore_22 : decode cX11_giveMore 22 = .ok (.iaload, 1) := by decide +kernel
theorem dX11_giveMore_23 : decode cX11_giveMore 23 = .ok (.iload_n 1, 1) := by decide +kernel
theorem dX11_giveMore_24 : decode cX11_giveMore 24 = .ok (.if_icmp .ne 45, 3) := by decide +kernel
theorem dX11_giveMore_27 : decode cX11_giveMore 27 = .ok (.aload_n 0, 1) := by decide +kernel
theorem dX11_giveMore_28 : decode cX11_giveMore 28 = .ok (.getfield 111, 3) := by decide +kernel
theorem dX11_giveMore_31 : decode cX11_giveMore 31 = .ok (.iload_n 3, 1) := by decide +kernel
theorem dX11_giveMore_32 : decode cX11_giveMore 32 = .ok (.iaload, 1) := by decide +kernel
theorem dX11_giveMore_33 : decode cX11_giveMore 33 = .ok (.ifCond .le 36, 3) := by decide +kernel
theorem dX11_giveMore_36 : decode cX11_giveMore 36 = .ok (.aload_n 0, 1) := by decide +kernel
theorem dX11_giveMore_37 : decode cX11_giveMore 37 = .ok (.getfield 117, 3) := by decide +kernel
theorem dX11_giveMore_40 : decode cX11_giveMore 40 = .ok (.iload_n 3, 1) := by decide +kernel
theorem dX11_giveMore_41 : decode cX11_giveMore 41 = .ok (.iaload, 1) := by decide +kernel
theorem dX11_giveMore_42 : decode cX11_giveMore 42 = .ok (.ldc_w 377, 3) := by decide +kernel
theorem dX11_giveMore_45 : decode cX11_giveMore 45 = .ok (.if_icmp .ge 24, 3) := by decide +kernel
theorem dX11_giveMore_48 : decode cX11_giveMore 48 = .ok (.iload_n 2, 1) := by decide +kernel
theorem dX11_giveMore_49 : decode cX11_giveMore 49 = .ok (.ifCond .lt 18, 3) := by decide +kernel
theorem dX11_giveMore_52 : decode cX11_giveMore 52 = .ok (.aload_n 0, 1) := by decide +kernel
theorem dX11_giveMore_53 : decode cX11_giveMore 53 = .ok (.getfield 117, 3) := by decide +kernel
theorem dX11_giveMore_56 : decode cX11_giveMore 56 = .ok (.iload_n 3, 1) := by decide +kernel
theorem dX11_giveMore_57 : decode cX11_giveMore 57 = .ok (.iaload, 1) := by decide +kernel
theorem dX11_giveMore_58 : decode cX11_giveMore 58 = .ok (.aload_n 0, 1) := by decide +kernel
theorem dX11_giveMore_59 : decode cX11_giveMore 59 = .ok (.getfield 117, 3) := by decide +kernel
theorem dX11_giveMore_62 : decode cX11_giveMore 62 = .ok (.iload_n 2, 1) := by decide +kernel
theorem dX11_giveMore_63 : decode cX11_giveMore 63 = .ok (.iaload, 1) := by decide +kernel
theorem dX11_giveMore_64 : decode cX11_giveMore 64 = .ok (.if_icmp .ge 5, 3) := by decide +kernel
theorem dX11_giveMore_67 : decode cX11_giveMore 67 = .ok (.iload_n 3, 1) := by decide +kernel
theorem dX11_giveMore_68 : decode cX11_giveMore 68 = .ok (.istore_n 2, 1) := by decide +kernel
theorem dX11_giveMore_69 : decode cX11_giveMore 69 = .ok (.iinc 3 1, 3) := by decide +kernel
theorem dX11_giveMore_72 : decode cX11_giveMore 72 = .ok (.goto (-63), 3) := by decide +kernel
theorem dX11_giveMore_75 : decode cX11_giveMore 75 = .ok (.iload_n 2, 1) := by decide +kernel
theorem dX11_giveMore_76 : decode cX11_giveMore 76 = .ok (.ifCond .ge 5, 3) := by decide +kernel
theorem dX11_giveMore_79 : decode cX11_giveMore 79 = .ok (.iconst 0, 1) := by decide +kernel
theorem dX11_giveMore_80 : decode cX11_giveMore 80 = .ok (.ireturn, 1) := by decide +kernel
theorem dX11_giveMore_81 : decode cX11_giveMore 81 = .ok (.aload_n 0, 1) := by decide +kernel
theorem dX11_giveMore_82 : decode cX11_giveMore 82 = .ok (.getfield 111, 3) := by decide +kernel
theorem dX11_giveMore_85 : decode cX11_giveMore 85 = .ok (.iload_n 2, 1) := by decide +kernel
theorem dX11_giveMore_86 : decode cX11_giveMore 86 = .ok (.iaload, 1) := by decide +kernel
theorem dX11_giveMore_87 : decode cX11_giveMore 87 = .ok (.istore_n 3, 1) := by decide +kernel
theorem dX11_giveMore_88 : decode cX11_giveMore 88 = .ok (.iload_n 2, 1) := by decide +kernel
theorem dX11_giveMore_89 : decode cX11_giveMore 89 = .ok (.istore 4, 2) := by decide +kernel
theorem dX11_giveMore_91 : decode cX11_giveMore 91 = .ok (.aload_n 0, 1) := by decide +kernel
theorem dX11_giveMore_92 : decode cX11_giveMore 92 = .ok (.getfield 123, 3) := by decide +kernel
theorem dX11_giveMore_95 : decode cX11_giveMore 95 = .ok (.iload 4, 2) := by decide +kernel
theorem dX11_giveMore_97 : decode cX11_giveMore 97 = .ok (.iaload, 1) := by decide +kernel
theorem dX11_giveMore_98 : decode cX11_giveMore 98 = .ok (.istore 5, 2) := by decide +kernel
theorem dX11_giveMore_100 : decode cX11_giveMore 100 = .ok (.aload_n 0, 1) := by decide +kernel
theorem dX11_giveMore_101 : decode cX11_giveMore 101 = .ok (.getfield 120, 3) := by decide +kernel
theorem dX11_giveMore_104 : decode cX11_giveMore 104 = .ok (.iload 5, 2) := by decide +kernel
theorem dX11_giveMore_106 : decode cX11_giveMore 106 = .ok (.iaload, 1) := by decide +kernel
theorem dX11_giveMore_107 : decode cX11_giveMore 107 = .ok (.ifCond .lt 59, 3) := by decide +kernel
theorem dX11_giveMore_110 : decode cX11_giveMore 110 = .ok (.aload_n 0, 1) := by decide +kernel
theorem dX11_giveMore_111 : decode cX11_giveMore 111 = .ok (.getfield 120, 3) := by decide +kernel
theorem dX11_giveMore_114 : decode cX11_giveMore 114 = .ok (.iload 5, 2) := by decide +kernel
theorem dX11_giveMore_116 : decode cX11_giveMore 116 = .ok (.iaload, 1) := by decide +kernel
theorem dX11_giveMore_117 : decode cX11_giveMore 117 = .ok (.istore 4, 2) := by decide +kernel
theorem dX11_giveMore_119 : decode cX11_giveMore 119 = .ok (.aload_n 0, 1) := by decide +kernel
theorem dX11_giveMore_120 : decode cX11_giveMore 120 = .ok (.getfield 108, 3) := by decide +kernel
theorem dX11_giveMore_123 : decode cX11_giveMore 123 = .ok (.bipush 10, 2) := by decide +kernel
theorem dX11_giveMore_125 : decode cX11_giveMore 125 = .ok (.iload 5, 2) := by decide +kernel
theorem dX11_giveMore_127 : decode cX11_giveMore 127 = .ok (.imul, 1) := by decide +kernel
theorem dX11_giveMore_128 : decode cX11_giveMore 128 = .ok (.iload 4, 2) := by decide +kernel
theorem dX11_giveMore_130 : decode cX11_giveMore 130 = .ok (.iadd, 1) := by decide +kernel
theorem dX11_giveMore_131 : decode cX11_giveMore 131 = .ok (.iaload, 1) := by decide +kernel
theorem dX11_giveMore_132 : decode cX11_giveMore 132 = .ok (.iload_n 3, 1) := by decide +kernel
theorem dX11_giveMore_133 : decode cX11_giveMore 133 = .ok (.if_icmp .ge 19, 3) := by decide +kernel
theorem dX11_giveMore_136 : decode cX11_giveMore 136 = .ok (.aload_n 0, 1) := by decide +kernel
theorem dX11_giveMore_137 : decode cX11_giveMore 137 = .ok (.getfield 108, 3) := by decide +kernel
theorem dX11_giveMore_140 : decode cX11_giveMore 140 = .ok (.bipush 10, 2) := by decide +kernel
theorem dX11_giveMore_142 : decode cX11_giveMore 142 = .ok (.iload 5, 2) := by decide +kernel
theorem dX11_giveMore_144 : decode cX11_giveMore 144 = .ok (.imul, 1) := by decide +kernel
theorem dX11_giveMore_145 : decode cX11_giveMore 145 = .ok (.iload 4, 2) := by decide +kernel
theorem dX11_giveMore_147 : decode cX11_giveMore 147 = .ok (.iadd, 1) := by decide +kernel
theorem dX11_giveMore_148 : decode cX11_giveMore 148 = .ok (.iaload, 1) := by decide +kernel
theorem dX11_giveMore_149 : decode cX11_giveMore 149 = .ok (.goto 4, 3) := by decide +kernel
theorem dX11_giveMore_152 : decode cX11_giveMore 152 = .ok (.iload_n 3, 1) := by decide +kernel
theorem dX11_giveMore_153 : decode cX11_giveMore 153 = .ok (.istore_n 3, 1) := by decide +kernel
theorem dX11_giveMore_154 : decode cX11_giveMore 154 = .ok (.aload_n 0, 1) := by decide +kernel
theorem dX11_giveMore_155 : decode cX11_giveMore 155 = .ok (.getfield 123, 3) := by decide +kernel
theorem dX11_giveMore_158 : decode cX11_giveMore 158 = .ok (.iload 4, 2) := by decide +kernel
theorem dX11_giveMore_160 : decode cX11_giveMore 160 = .ok (.iaload, 1) := by decide +kernel
theorem dX11_giveMore_161 : decode cX11_giveMore 161 = .ok (.istore 5, 2) := by decide +kernel
theorem dX11_giveMore_163 : decode cX11_giveMore 163 = .ok (.goto (-63), 3) := by decide +kernel
theorem dX11_giveMore_166 : decode cX11_giveMore 166 = .ok (.aload_n 0, 1) := by decide +kernel
theorem dX11_giveMore_167 : decode cX11_giveMore 167 = .ok (.getfield 105, 3) := by decide +kernel
theorem dX11_giveMore_170 : decode cX11_giveMore 170 = .ok (.iload 5, 2) := by decide +kernel
theorem dX11_giveMore_172 : decode cX11_giveMore 172 = .ok (.iaload, 1) := by decide +kernel
theorem dX11_giveMore_173 : decode cX11_giveMore 173 = .ok (.iload_n 3, 1) := by decide +kernel
theorem dX11_giveMore_174 : decode cX11_giveMore 174 = .ok (.if_icmp .ge 13, 3) := by decide +kernel
theorem dX11_giveMore_177 : decode cX11_giveMore 177 = .ok (.aload_n 0, 1) := by decide +kernel
theorem dX11_giveMore_178 : decode cX11_giveMore 178 = .ok (.getfield 105, 3) := by decide +kernel
theorem dX11_giveMore_181 : decode cX11_giveMore 181 = .ok (.iload 5, 2) := by decide +kernel
theorem dX11_giveMore_183 : decode cX11_giveMore 183 = .ok (.iaload, 1) := by decide +kernel
theorem dX11_giveMore_184 : decode cX11_giveMore 184 = .ok (.goto 4, 3) := by decide +kernel
theorem dX11_giveMore_187 : decode cX11_giveMore 187 = .ok (.iload_n 3, 1) := by decide +kernel
theorem dX11_giveMore_188 : decode cX11_giveMore 188 = .ok (.istore_n 3, 1) := by decide +kernel
theorem dX11_giveMore_189 : decode cX11_giveMore 189 = .ok (.aload_n 0, 1) := by decide +kernel
theorem dX11_giveMore_190 : decode cX11_giveMore 190 = .ok (.getfield 111, 3) := by decide +kernel
theorem dX11_giveMore_193 : decode cX11_giveMore 193 = .ok (.iload_n 2, 1) := by decide +kernel
theorem dX11_giveMore_194 : decode cX11_giveMore 194 = .ok (.dup2, 1) := by decide +kernel
theorem dX11_giveMore_195 : decode cX11_giveMore 195 = .ok (.iaload, 1) := by decide +kernel
theorem dX11_giveMore_196 : decode cX11_giveMore 196 = .ok (.iload_n 3, 1) := by decide +kernel
theorem dX11_giveMore_197 : decode cX11_giveMore 197 = .ok (.isub, 1) := by decide +kernel
theorem dX11_giveMore_198 : decode cX11_giveMore 198 = .ok (.iastore, 1) := by decide +kernel
theorem dX11_giveMore_199 : decode cX11_giveMore 199 = .ok (.aload_n 0, 1) := by decide +kernel
theorem dX11_giveMore_200 : decode cX11_giveMore 200 = .ok (.dup, 1) := by decide +kernel
theorem dX11_giveMore_201 : decode cX11_giveMore 201 = .ok (.getfield 368, 3) := by decide +kernel
theorem dX11_giveMore_204 : decode cX11_giveMore 204 = .ok (.iload_n 3, 1) := by decide +kernel
theorem dX11_giveMore_205 : decode cX11_giveMore 205 = .ok (.iadd, 1) := by decide +kernel
theorem dX11_giveMore_206 : decode cX11_giveMore 206 = .ok (.putfield 368, 3) := by decide +kernel
theorem dX11_giveMore_209 : decode cX11_giveMore 209 = .ok (.aload_n 0, 1) := by decide +kernel
theorem dX11_giveMore_210 : decode cX11_giveMore 210 = .ok (.dup, 1) := by decide +kernel
theorem dX11_giveMore_211 : decode cX11_giveMore 211 = .ok (.getfield 371, 3) := by decide +kernel
theorem dX11_giveMore_214 : decode cX11_giveMore 214 = .ok (.iload_n 3, 1) := by decide +kernel
theorem dX11_giveMore_215 : decode cX11_giveMore 215 = .ok (.aload_n 0, 1) := by decide +kernel
theorem dX11_giveMore_216 : decode cX11_giveMore 216 = .ok (.getfield 117, 3) := by decide +kernel
theorem dX11_giveMore_219 : decode cX11_giveMore 219 = .ok (.iload_n 2, 1) := by decide +kernel
theorem dX11_giveMore_220 : decode cX11_giveMore 220 = .ok (.iaload, 1) := by decide +kernel
theorem dX11_giveMore_221 : decode cX11_giveMore 221 = .ok (.imul, 1) := by decide +kernel
theorem dX11_giveMore_222 : decode cX11_giveMore 222 = .ok (.iadd, 1) := by decide +kernel
theorem dX11_giveMore_223 : decode cX11_giveMore 223 = .ok (.putfield 371, 3) := by decide +kernel
theorem dX11_giveMore_226 : decode cX11_giveMore 226 = .ok (.iload_n 2, 1) := by decide +kernel
theorem dX11_giveMore_227 : decode cX11_giveMore 227 = .ok (.istore 4, 2) := by decide +kernel
theorem dX11_giveMore_229 : decode cX11_giveMore 229 = .ok (.aload_n 0, 1) := by decide +kernel
theorem dX11_giveMore_230 : decode cX11_giveMore 230 = .ok (.getfield 123, 3) := by decide +kernel
theorem dX11_giveMore_233 : decode cX11_giveMore 233 = .ok (.iload 4, 2) := by decide +kernel
theorem dX11_giveMore_235 : decode cX11_giveMore 235 = .ok (.iaload, 1) := by decide +kernel
theorem dX11_giveMore_236 : decode cX11_giveMore 236 = .ok (.istore 5, 2) := by decide +kernel
theorem dX11_giveMore_238 : decode cX11_giveMore 238 = .ok (.aload_n 0, 1) := by decide +kernel
theorem dX11_giveMore_239 : decode cX11_giveMore 239 = .ok (.getfield 108, 3) := by decide +kernel
theorem dX11_giveMore_242 : decode cX11_giveMore 242 = .ok (.bipush 10, 2) := by decide +kernel
theorem dX11_giveMore_244 : decode cX11_giveMore 244 = .ok (.iload 5, 2) := by decide +kernel
theorem dX11_giveMore_246 : decode cX11_giveMore 246 = .ok (.imul, 1) := by decide +kernel
theorem dX11_giveMore_247 : decode cX11_giveMore 247 = .ok (.iload 4, 2) := by decide +kernel
theorem dX11_giveMore_249 : decode cX11_giveMore 249 = .ok (.iadd, 1) := by decide +kernel
theorem dX11_giveMore_250 : decode cX11_giveMore 250 = .ok (.dup2, 1) := by decide +kernel
theorem dX11_giveMore_251 : decode cX11_giveMore 251 = .ok (.iaload, 1) := by decide +kernel
theorem dX11_giveMore_252 : decode cX11_giveMore 252 = .ok (.iload_n 3, 1) := by decide +kernel
theorem dX11_giveMore_253 : decode cX11_giveMore 253 = .ok (.iadd, 1) := by decide +kernel
theorem dX11_giveMore_254 : decode cX11_giveMore 254 = .ok (.iastore, 1) := by decide +kernel
theorem dX11_giveMore_255 : decode cX11_giveMore 255 = .ok (.aload_n 0, 1) := by decide +kernel
theorem dX11_giveMore_256 : decode cX11_giveMore 256 = .ok (.getfield 120, 3) := by decide +kernel
theorem dX11_giveMore_259 : decode cX11_giveMore 259 = .ok (.iload 5, 2) := by decide +kernel
theorem dX11_giveMore_261 : decode cX11_giveMore 261 = .ok (.iaload, 1) := by decide +kernel
theorem dX11_giveMore_262 : decode cX11_giveMore 262 = .ok (.ifCond .lt 58, 3) := by decide +kernel
theorem dX11_giveMore_265 : decode cX11_giveMore 265 = .ok (.aload_n 0, 1) := by decide +kernel
theorem dX11_giveMore_266 : decode cX11_giveMore 266 = .ok (.getfield 120, 3) := by decide +kernel
theorem dX11_giveMore_269 : decode cX11_giveMore 269 = .ok (.iload 5, 2) := by decide +kernel
theorem dX11_giveMore_271 : decode cX11_giveMore 271 = .ok (.iaload, 1) := by decide +kernel
theorem dX11_giveMore_272 : decode cX11_giveMore 272 = .ok (.istore 4, 2) := by decide +kernel
theorem dX11_giveMore_274 : decode cX11_giveMore 274 = .ok (.aload_n 0, 1) := by decide +kernel
theorem dX11_giveMore_275 : decode cX11_giveMore 275 = .ok (.getfield 108, 3) := by decide +kernel
theorem dX11_giveMore_278 : decode cX11_giveMore 278 = .ok (.bipush 10, 2) := by decide +kernel
theorem dX11_giveMore_280 : decode cX11_giveMore 280 = .ok (.iload 5, 2) := by decide +kernel
theorem dX11_giveMore_282 : decode cX11_giveMore 282 = .ok (.imul, 1) := by decide +kernel
theorem dX11_giveMore_283 : decode cX11_giveMore 283 = .ok (.iload 4, 2) := by decide +kernel
theorem dX11_giveMore_285 : decode cX11_giveMore 285 = .ok (.iadd, 1) := by decide +kernel
theorem dX11_giveMore_286 : decode cX11_giveMore 286 = .ok (.dup2, 1) := by decide +kernel
theorem dX11_giveMore_287 : decode cX11_giveMore 287 = .ok (.iaload, 1) := by decide +kernel
theorem dX11_giveMore_288 : decode cX11_giveMore 288 = .ok (.iload_n 3, 1) := by decide +kernel
theorem dX11_giveMore_289 : decode cX11_giveMore 289 = .ok (.isub, 1) := by decide +kernel
theorem dX11_giveMore_290 : decode cX11_giveMore 290 = .ok (.iastore, 1) := by decide +kernel
theorem dX11_giveMore_291 : decode cX11_giveMore 291 = .ok (.aload_n 0, 1) := by decide +kernel
theorem dX11_giveMore_292 : decode cX11_giveMore 292 = .ok (.getfield 123, 3) := by decide +kernel
theorem dX11_giveMore_295 : decode cX11_giveMore 295 = .ok (.iload 4, 2) := by decide +kernel
theorem dX11_giveMore_297 : decode cX11_giveMore 297 = .ok (.iaload, 1) := by decide +kernel
theorem dX11_giveMore_298 : decode cX11_giveMore 298 = .ok (.istore 5, 2) := by decide +kernel
theorem dX11_giveMore_300 : decode cX11_giveMore 300 = .ok (.aload_n 0, 1) := by decide +kernel
theorem dX11_giveMore_301 : decode cX11_giveMore 301 = .ok (.getfield 108, 3) := by decide +kernel
theorem dX11_giveMore_304 : decode cX11_giveMore 304 = .ok (.bipush 10, 2) := by decide +kernel
theorem dX11_giveMore_306 : decode cX11_giveMore 306 = .ok (.iload 5, 2) := by decide +kernel
theorem dX11_giveMore_308 : decode cX11_giveMore 308 = .ok (.imul, 1) := by decide +kernel
theorem dX11_giveMore_309 : decode cX11_giveMore 309 = .ok (.iload 4, 2) := by decide +kernel
theorem dX11_giveMore_311 : decode cX11_giveMore 311 = .ok (.iadd, 1) := by decide +kernel
theorem dX11_giveMore_312 : decode cX11_giveMore 312 = .ok (.dup2, 1) := by decide +kernel
theorem dX11_giveMore_313 : decode cX11_giveMore 313 = .ok (.iaload, 1) := by decide +kernel
theorem dX11_giveMore_314 : decode cX11_giveMore 314 = .ok (.iload_n 3, 1) := by decide +kernel
theorem dX11_giveMore_315 : decode cX11_giveMore 315 = .ok (.iadd, 1) := by decide +kernel
theorem dX11_giveMore_316 : decode cX11_giveMore 316 = .ok (.iastore, 1) := by decide +kernel
theorem dX11_giveMore_317 : decode cX11_giveMore 317 = .ok (.goto (-62), 3) := by decide +kernel
theorem dX11_giveMore_320 : decode cX11_giveMore 320 = .ok (.aload_n 0, 1) := by decide +kernel
theorem dX11_giveMore_321 : decode cX11_giveMore 321 = .ok (.getfield 105, 3) := by decide +kernel
theorem dX11_giveMore_324 : decode cX11_giveMore 324 = .ok (.iload 5, 2) := by decide +kernel
theorem dX11_giveMore_326 : decode cX11_giveMore 326 = .ok (.dup2, 1) := by decide +kernel
theorem dX11_giveMore_327 : decode cX11_giveMore 327 = .ok (.iaload, 1) := by decide +kernel
theorem dX11_giveMore_328 : decode cX11_giveMore 328 = .ok (.iload_n 3, 1) := by decide +kernel
theorem dX11_giveMore_329 : decode cX11_giveMore 329 = .ok (.isub, 1) := by decide +kernel
theorem dX11_giveMore_330 : decode cX11_giveMore 330 = .ok (.iastore, 1) := by decide +kernel
theorem dX11_giveMore_331 : decode cX11_giveMore 331 = .ok (.iconst 1, 1) := by decide +kernel
theorem dX11_giveMore_332 : decode cX11_giveMore 332 = .ok (.ireturn, 1) := by decide +kernel
theorem dX11_fed_0 : decode cX11_fed 0 = .ok (.aload_n 0, 1) := by decide +kernel
theorem dX11_fed_1 : decode cX11_fed 1 = .ok (.invokevirtual 391, 3) := by decide +kernel
theorem dX11_fed_4 : decode cX11_fed 4 = .ok (.aload_n 0, 1) := by decide +kernel
theorem dX11_fed_5 : decode cX11_fed 5 = .ok (.getfield 368, 3) := by decide +kernel
theorem dX11_fed_8 : decode cX11_fed 8 = .ok (.ireturn, 1) := by decide +kernel
theorem dX11_carried_0 : decode cX11_carried 0 = .ok (.aload_n 0, 1) := by decide +kernel
theorem dX11_carried_1 : decode cX11_carried 1 = .ok (.invokevirtual 391, 3) := by decide +kernel
theorem dX11_carried_4 : decode cX11_carried 4 = .ok (.aload_n 0, 1) := by decide +kernel
theorem dX11_carried_5 : decode cX11_carried 5 = .ok (.getfield 371, 3) := by decide +kernel
theorem dX11_carried_8 : decode cX11_carried 8 = .ok (.ireturn, 1) := by decide +kernel
theorem dX11_call_0 : decode cX11_call 0 = .ok (.iconst 0, 1) := by decide +kernel
theorem dX11_call_1 : decode cX11_call 1 = .ok (.istore_n 2, 1) := by decide +kernel
theorem dX11_call_2 : decode cX11_call 2 = .ok (.iconst 0, 1) := by decide +kernel
theorem dX11_call_3 : decode cX11_call 3 = .ok (.istore_n 3, 1) := by decide +kernel
theorem dX11_call_4 : decode cX11_call 4 = .ok (.iload_n 3, 1) := by decide +kernel
theorem dX11_call_5 : decode cX11_call 5 = .ok (.aload_n 0, 1) := by decide +kernel
theorem dX11_call_6 : decode cX11_call 6 = .ok (.getfield 153, 3) := by decide +kernel
theorem dX11_call_9 : decode cX11_call 9 = .ok (.if_icmp .ge 18, 3) := by decide +kernel
theorem dX11_call_12 : decode cX11_call 12 = .ok (.iload_n 2, 1) := by decide +kernel
theorem dX11_call_13 : decode cX11_call 13 = .ok (.aload_n 0, 1) := by decide +kernel
end
section
theorem dX11_call_14 : decode cX11_call 14 = .ok (.getfield 16, 3) := by decide +kernel
theorem dX11_call_17 : decode cX11_call 17 = .ok (.iload_n 3, 1) := by decide +kernel
theorem dX11_call_18 : decode cX11_call 18 = .ok (.iaload, 1) := by decide +kernel
theorem dX11_call_19 : decode cX11_call 19 = .ok (.iadd, 1) := by decide +kernel
theorem dX11_call_20 : decode cX11_call 20 = .ok (.istore_n 2, 1) := by decide +kernel
theorem dX11_call_21 : decode cX11_call 21 = .ok (.iinc 3 1, 3) := by decide +kernel
theorem dX11_call_24 : decode cX11_call 24 = .ok (.goto (-20), 3) := by decide +kernel
theorem dX11_call_27 : decode cX11_call 27 = .ok (.iload_n 1, 1) := by decide +kernel
theorem dX11_call_28 : decode cX11_call 28 = .ok (.iconst 1, 1) := by decide +kernel
theorem dX11_call_29 : decode cX11_call 29 = .ok (.if_icmp .lt 25, 3) := by decide +kernel
theorem dX11_call_32 : decode cX11_call 32 = .ok (.iload_n 1, 1) := by decide +kernel
theorem dX11_call_33 : decode cX11_call 33 = .ok (.sipush 1000, 3) := by decide +kernel
theorem dX11_call_36 : decode cX11_call 36 = .ok (.if_icmp .gt 18, 3) := by decide +kernel
theorem dX11_call_39 : decode cX11_call 39 = .ok (.iload_n 2, 1) := by decide +kernel
theorem dX11_call_40 : decode cX11_call 40 = .ok (.ifCond .eq 14, 3) := by decide +kernel
theorem dX11_call_43 : decode cX11_call 43 = .ok (.aload_n 0, 1) := by decide +kernel
theorem dX11_call_44 : decode cX11_call 44 = .ok (.getfield 394, 3) := by decide +kernel
theorem dX11_call_47 : decode cX11_call 47 = .ok (.iload_n 1, 1) := by decide +kernel
theorem dX11_call_48 : decode cX11_call 48 = .ok (.iadd, 1) := by decide +kernel
theorem dX11_call_49 : decode cX11_call 49 = .ok (.ldc 156, 2) := by decide +kernel
theorem dX11_call_51 : decode cX11_call 51 = .ok (.if_icmp .le 5, 3) := by decide +kernel
theorem dX11_call_54 : decode cX11_call 54 = .ok (.iconst (-1), 1) := by decide +kernel
theorem dX11_call_55 : decode cX11_call 55 = .ok (.ireturn, 1) := by decide +kernel
theorem dX11_call_56 : decode cX11_call 56 = .ok (.iconst 0, 1) := by decide +kernel
theorem dX11_call_57 : decode cX11_call 57 = .ok (.istore_n 3, 1) := by decide +kernel
theorem dX11_call_58 : decode cX11_call 58 = .ok (.iload_n 3, 1) := by decide +kernel
theorem dX11_call_59 : decode cX11_call 59 = .ok (.iload_n 1, 1) := by decide +kernel
theorem dX11_call_60 : decode cX11_call 60 = .ok (.if_icmp .ge 87, 3) := by decide +kernel
theorem dX11_call_63 : decode cX11_call 63 = .ok (.aload_n 0, 1) := by decide +kernel
theorem dX11_call_64 : decode cX11_call 64 = .ok (.dup, 1) := by decide +kernel
theorem dX11_call_65 : decode cX11_call 65 = .ok (.getfield 394, 3) := by decide +kernel
theorem dX11_call_68 : decode cX11_call 68 = .ok (.iconst 1, 1) := by decide +kernel
theorem dX11_call_69 : decode cX11_call 69 = .ok (.iadd, 1) := by decide +kernel
theorem dX11_call_70 : decode cX11_call 70 = .ok (.putfield 394, 3) := by decide +kernel
theorem dX11_call_73 : decode cX11_call 73 = .ok (.iconst (-1), 1) := by decide +kernel
theorem dX11_call_74 : decode cX11_call 74 = .ok (.istore 4, 2) := by decide +kernel
theorem dX11_call_76 : decode cX11_call 76 = .ok (.iconst 0, 1) := by decide +kernel
theorem dX11_call_77 : decode cX11_call 77 = .ok (.istore 5, 2) := by decide +kernel
theorem dX11_call_79 : decode cX11_call 79 = .ok (.iload 5, 2) := by decide +kernel
theorem dX11_call_81 : decode cX11_call 81 = .ok (.aload_n 0, 1) := by decide +kernel
theorem dX11_call_82 : decode cX11_call 82 = .ok (.getfield 153, 3) := by decide +kernel
theorem dX11_call_85 : decode cX11_call 85 = .ok (.if_icmp .ge 45, 3) := by decide +kernel
theorem dX11_call_88 : decode cX11_call 88 = .ok (.aload_n 0, 1) := by decide +kernel
theorem dX11_call_89 : decode cX11_call 89 = .ok (.getfield 16, 3) := by decide +kernel
theorem dX11_call_92 : decode cX11_call 92 = .ok (.iload 5, 2) := by decide +kernel
theorem dX11_call_94 : decode cX11_call 94 = .ok (.iaload, 1) := by decide +kernel
theorem dX11_call_95 : decode cX11_call 95 = .ok (.ifCond .le 29, 3) := by decide +kernel
theorem dX11_call_98 : decode cX11_call 98 = .ok (.iload 4, 2) := by decide +kernel
theorem dX11_call_100 : decode cX11_call 100 = .ok (.ifCond .lt 20, 3) := by decide +kernel
theorem dX11_call_103 : decode cX11_call 103 = .ok (.aload_n 0, 1) := by decide +kernel
theorem dX11_call_104 : decode cX11_call 104 = .ok (.iload 5, 2) := by decide +kernel
theorem dX11_call_106 : decode cX11_call 106 = .ok (.iload_n 2, 1) := by decide +kernel
theorem dX11_call_107 : decode cX11_call 107 = .ok (.invokevirtual 397, 3) := by decide +kernel
theorem dX11_call_110 : decode cX11_call 110 = .ok (.aload_n 0, 1) := by decide +kernel
theorem dX11_call_111 : decode cX11_call 111 = .ok (.iload 4, 2) := by decide +kernel
theorem dX11_call_113 : decode cX11_call 113 = .ok (.iload_n 2, 1) := by decide +kernel
theorem dX11_call_114 : decode cX11_call 114 = .ok (.invokevirtual 397, 3) := by decide +kernel
theorem dX11_call_117 : decode cX11_call 117 = .ok (.if_icmp .le 7, 3) := by decide +kernel
theorem dX11_call_120 : decode cX11_call 120 = .ok (.iload 5, 2) := by decide +kernel
theorem dX11_call_122 : decode cX11_call 122 = .ok (.istore 4, 2) := by decide +kernel
theorem dX11_call_124 : decode cX11_call 124 = .ok (.iinc 5 1, 3) := by decide +kernel
theorem dX11_call_127 : decode cX11_call 127 = .ok (.goto (-48), 3) := by decide +kernel
theorem dX11_call_130 : decode cX11_call 130 = .ok (.aload_n 0, 1) := by decide +kernel
theorem dX11_call_131 : decode cX11_call 131 = .ok (.getfield 126, 3) := by decide +kernel
theorem dX11_call_134 : decode cX11_call 134 = .ok (.iload 4, 2) := by decide +kernel
theorem dX11_call_136 : decode cX11_call 136 = .ok (.dup2, 1) := by decide +kernel
theorem dX11_call_137 : decode cX11_call 137 = .ok (.iaload, 1) := by decide +kernel
theorem dX11_call_138 : decode cX11_call 138 = .ok (.iconst 1, 1) := by decide +kernel
theorem dX11_call_139 : decode cX11_call 139 = .ok (.iadd, 1) := by decide +kernel
theorem dX11_call_140 : decode cX11_call 140 = .ok (.iastore, 1) := by decide +kernel
theorem dX11_call_141 : decode cX11_call 141 = .ok (.iinc 3 1, 3) := by decide +kernel
theorem dX11_call_144 : decode cX11_call 144 = .ok (.goto (-86), 3) := by decide +kernel
theorem dX11_call_147 : decode cX11_call 147 = .ok (.aload_n 0, 1) := by decide +kernel
theorem dX11_call_148 : decode cX11_call 148 = .ok (.getfield 394, 3) := by decide +kernel
theorem dX11_call_151 : decode cX11_call 151 = .ok (.ireturn, 1) := by decide +kernel
theorem dX11_lacks_0 : decode cX11_lacks 0 = .ok (.aload_n 0, 1) := by decide +kernel
theorem dX11_lacks_1 : decode cX11_lacks 1 = .ok (.getfield 16, 3) := by decide +kernel
theorem dX11_lacks_4 : decode cX11_lacks 4 = .ok (.iload_n 1, 1) := by decide +kernel
theorem dX11_lacks_5 : decode cX11_lacks 5 = .ok (.iaload, 1) := by decide +kernel
theorem dX11_lacks_6 : decode cX11_lacks 6 = .ok (.aload_n 0, 1) := by decide +kernel
theorem dX11_lacks_7 : decode cX11_lacks 7 = .ok (.getfield 394, 3) := by decide +kernel
theorem dX11_lacks_10 : decode cX11_lacks 10 = .ok (.imul, 1) := by decide +kernel
theorem dX11_lacks_11 : decode cX11_lacks 11 = .ok (.iload_n 2, 1) := by decide +kernel
theorem dX11_lacks_12 : decode cX11_lacks 12 = .ok (.aload_n 0, 1) := by decide +kernel
theorem dX11_lacks_13 : decode cX11_lacks 13 = .ok (.getfield 126, 3) := by decide +kernel
theorem dX11_lacks_16 : decode cX11_lacks 16 = .ok (.iload_n 1, 1) := by decide +kernel
theorem dX11_lacks_17 : decode cX11_lacks 17 = .ok (.iaload, 1) := by decide +kernel
theorem dX11_lacks_18 : decode cX11_lacks 18 = .ok (.imul, 1) := by decide +kernel
theorem dX11_lacks_19 : decode cX11_lacks 19 = .ok (.isub, 1) := by decide +kernel
theorem dX11_lacks_20 : decode cX11_lacks 20 = .ok (.ireturn, 1) := by decide +kernel
theorem dX11_gave_0 : decode cX11_gave 0 = .ok (.aload_n 0, 1) := by decide +kernel
theorem dX11_gave_1 : decode cX11_gave 1 = .ok (.iload_n 1, 1) := by decide +kernel
theorem dX11_gave_2 : decode cX11_gave 2 = .ok (.invokevirtual 157, 3) := by decide +kernel
theorem dX11_gave_5 : decode cX11_gave 5 = .ok (.ifCond .eq 12, 3) := by decide +kernel
theorem dX11_gave_8 : decode cX11_gave 8 = .ok (.aload_n 0, 1) := by decide +kernel
theorem dX11_gave_9 : decode cX11_gave 9 = .ok (.getfield 126, 3) := by decide +kernel
theorem dX11_gave_12 : decode cX11_gave 12 = .ok (.iload_n 1, 1) := by decide +kernel
theorem dX11_gave_13 : decode cX11_gave 13 = .ok (.iaload, 1) := by decide +kernel
theorem dX11_gave_14 : decode cX11_gave 14 = .ok (.goto 4, 3) := by decide +kernel
theorem dX11_gave_17 : decode cX11_gave 17 = .ok (.iconst (-1), 1) := by decide +kernel
theorem dX11_gave_18 : decode cX11_gave 18 = .ok (.ireturn, 1) := by decide +kernel
theorem dX11_tell_0 : decode cX11_tell 0 = .ok (.iload_n 1, 1) := by decide +kernel
theorem dX11_tell_1 : decode cX11_tell 1 = .ok (.ifCond .lt 59, 3) := by decide +kernel
theorem dX11_tell_4 : decode cX11_tell 4 = .ok (.iload_n 1, 1) := by decide +kernel
theorem dX11_tell_5 : decode cX11_tell 5 = .ok (.iconst 5, 1) := by decide +kernel
theorem dX11_tell_6 : decode cX11_tell 6 = .ok (.if_icmp .ge 54, 3) := by decide +kernel
theorem dX11_tell_9 : decode cX11_tell 9 = .ok (.aload_n 0, 1) := by decide +kernel
theorem dX11_tell_10 : decode cX11_tell 10 = .ok (.iload_n 2, 1) := by decide +kernel
theorem dX11_tell_11 : decode cX11_tell 11 = .ok (.invokevirtual 157, 3) := by decide +kernel
theorem dX11_tell_14 : decode cX11_tell 14 = .ok (.ifCond .eq 46, 3) := by decide +kernel
theorem dX11_tell_17 : decode cX11_tell 17 = .ok (.iload_n 3, 1) := by decide +kernel
theorem dX11_tell_18 : decode cX11_tell 18 = .ok (.invokestatic 161, 3) := by decide +kernel
theorem dX11_tell_21 : decode cX11_tell 21 = .ok (.ifCond .eq 39, 3) := by decide +kernel
theorem dX11_tell_24 : decode cX11_tell 24 = .ok (.iload 4, 2) := by decide +kernel
theorem dX11_tell_26 : decode cX11_tell 26 = .ok (.ifCond .lt 34, 3) := by decide +kernel
theorem dX11_tell_29 : decode cX11_tell 29 = .ok (.iload 4, 2) := by decide +kernel
theorem dX11_tell_31 : decode cX11_tell 31 = .ok (.aload_n 0, 1) := by decide +kernel
theorem dX11_tell_32 : decode cX11_tell 32 = .ok (.getfield 332, 3) := by decide +kernel
theorem dX11_tell_35 : decode cX11_tell 35 = .ok (.if_icmp .gt 25, 3) := by decide +kernel
theorem dX11_tell_38 : decode cX11_tell 38 = .ok (.iload 5, 2) := by decide +kernel
theorem dX11_tell_40 : decode cX11_tell 40 = .ok (.ifCond .lt 20, 3) := by decide +kernel
theorem dX11_tell_43 : decode cX11_tell 43 = .ok (.iload 5, 2) := by decide +kernel
theorem dX11_tell_45 : decode cX11_tell 45 = .ok (.ldc_w 400, 3) := by decide +kernel
theorem dX11_tell_48 : decode cX11_tell 48 = .ok (.if_icmp .gt 12, 3) := by decide +kernel
theorem dX11_tell_51 : decode cX11_tell 51 = .ok (.aload_n 0, 1) := by decide +kernel
theorem dX11_tell_52 : decode cX11_tell 52 = .ok (.getfield 401, 3) := by decide +kernel
theorem dX11_tell_55 : decode cX11_tell 55 = .ok (.bipush 60, 2) := by decide +kernel
theorem dX11_tell_57 : decode cX11_tell 57 = .ok (.if_icmp .ne 5, 3) := by decide +kernel
theorem dX11_tell_60 : decode cX11_tell 60 = .ok (.iconst (-1), 1) := by decide +kernel
theorem dX11_tell_61 : decode cX11_tell 61 = .ok (.ireturn, 1) := by decide +kernel
theorem dX11_tell_62 : decode cX11_tell 62 = .ok (.aload_n 0, 1) := by decide +kernel
theorem dX11_tell_63 : decode cX11_tell 63 = .ok (.getfield 129, 3) := by decide +kernel
theorem dX11_tell_66 : decode cX11_tell 66 = .ok (.aload_n 0, 1) := by decide +kernel
theorem dX11_tell_67 : decode cX11_tell 67 = .ok (.getfield 401, 3) := by decide +kernel
theorem dX11_tell_70 : decode cX11_tell 70 = .ok (.iload_n 1, 1) := by decide +kernel
theorem dX11_tell_71 : decode cX11_tell 71 = .ok (.iastore, 1) := by decide +kernel
theorem dX11_tell_72 : decode cX11_tell 72 = .ok (.aload_n 0, 1) := by decide +kernel
theorem dX11_tell_73 : decode cX11_tell 73 = .ok (.getfield 132, 3) := by decide +kernel
theorem dX11_tell_76 : decode cX11_tell 76 = .ok (.aload_n 0, 1) := by decide +kernel
theorem dX11_tell_77 : decode cX11_tell 77 = .ok (.getfield 401, 3) := by decide +kernel
theorem dX11_tell_80 : decode cX11_tell 80 = .ok (.iload_n 2, 1) := by decide +kernel
theorem dX11_tell_81 : decode cX11_tell 81 = .ok (.iastore, 1) := by decide +kernel
theorem dX11_tell_82 : decode cX11_tell 82 = .ok (.aload_n 0, 1) := by decide +kernel
theorem dX11_tell_83 : decode cX11_tell 83 = .ok (.getfield 135, 3) := by decide +kernel
theorem dX11_tell_86 : decode cX11_tell 86 = .ok (.aload_n 0, 1) := by decide +kernel
theorem dX11_tell_87 : decode cX11_tell 87 = .ok (.getfield 401, 3) := by decide +kernel
theorem dX11_tell_90 : decode cX11_tell 90 = .ok (.iload_n 3, 1) := by decide +kernel
theorem dX11_tell_91 : decode cX11_tell 91 = .ok (.iastore, 1) := by decide +kernel
theorem dX11_tell_92 : decode cX11_tell 92 = .ok (.aload_n 0, 1) := by decide +kernel
theorem dX11_tell_93 : decode cX11_tell 93 = .ok (.getfield 138, 3) := by decide +kernel
theorem dX11_tell_96 : decode cX11_tell 96 = .ok (.aload_n 0, 1) := by decide +kernel
theorem dX11_tell_97 : decode cX11_tell 97 = .ok (.getfield 401, 3) := by decide +kernel
theorem dX11_tell_100 : decode cX11_tell 100 = .ok (.iload 4, 2) := by decide +kernel
theorem dX11_tell_102 : decode cX11_tell 102 = .ok (.iastore, 1) := by decide +kernel
theorem dX11_tell_103 : decode cX11_tell 103 = .ok (.aload_n 0, 1) := by decide +kernel
theorem dX11_tell_104 : decode cX11_tell 104 = .ok (.getfield 141, 3) := by decide +kernel
theorem dX11_tell_107 : decode cX11_tell 107 = .ok (.aload_n 0, 1) := by decide +kernel
theorem dX11_tell_108 : decode cX11_tell 108 = .ok (.getfield 401, 3) := by decide +kernel
theorem dX11_tell_111 : decode cX11_tell 111 = .ok (.iload 5, 2) := by decide +kernel
theorem dX11_tell_113 : decode cX11_tell 113 = .ok (.iastore, 1) := by decide +kernel
theorem dX11_tell_114 : decode cX11_tell 114 = .ok (.aload_n 0, 1) := by decide +kernel
theorem dX11_tell_115 : decode cX11_tell 115 = .ok (.getfield 144, 3) := by decide +kernel
theorem dX11_tell_118 : decode cX11_tell 118 = .ok (.aload_n 0, 1) := by decide +kernel
theorem dX11_tell_119 : decode cX11_tell 119 = .ok (.getfield 401, 3) := by decide +kernel
theorem dX11_tell_122 : decode cX11_tell 122 = .ok (.aload_n 0, 1) := by decide +kernel
theorem dX11_tell_123 : decode cX11_tell 123 = .ok (.getfield 332, 3) := by decide +kernel
theorem dX11_tell_126 : decode cX11_tell 126 = .ok (.iastore, 1) := by decide +kernel
theorem dX11_tell_127 : decode cX11_tell 127 = .ok (.aload_n 0, 1) := by decide +kernel
theorem dX11_tell_128 : decode cX11_tell 128 = .ok (.getfield 147, 3) := by decide +kernel
theorem dX11_tell_131 : decode cX11_tell 131 = .ok (.aload_n 0, 1) := by decide +kernel
theorem dX11_tell_132 : decode cX11_tell 132 = .ok (.getfield 401, 3) := by decide +kernel
theorem dX11_tell_135 : decode cX11_tell 135 = .ok (.iconst (-1), 1) := by decide +kernel
theorem dX11_tell_136 : decode cX11_tell 136 = .ok (.iastore, 1) := by decide +kernel
theorem dX11_tell_137 : decode cX11_tell 137 = .ok (.aload_n 0, 1) := by decide +kernel
theorem dX11_tell_138 : decode cX11_tell 138 = .ok (.dup, 1) := by decide +kernel
theorem dX11_tell_139 : decode cX11_tell 139 = .ok (.getfield 401, 3) := by decide +kernel
theorem dX11_tell_142 : decode cX11_tell 142 = .ok (.iconst 1, 1) := by decide +kernel
theorem dX11_tell_143 : decode cX11_tell 143 = .ok (.iadd, 1) := by decide +kernel
theorem dX11_tell_144 : decode cX11_tell 144 = .ok (.putfield 401, 3) := by decide +kernel
theorem dX11_tell_147 : decode cX11_tell 147 = .ok (.aload_n 0, 1) := by decide +kernel
theorem dX11_tell_148 : decode cX11_tell 148 = .ok (.getfield 401, 3) := by decide +kernel
theorem dX11_tell_151 : decode cX11_tell 151 = .ok (.iconst 1, 1) := by decide +kernel
theorem dX11_tell_152 : decode cX11_tell 152 = .ok (.isub, 1) := by decide +kernel
theorem dX11_tell_153 : decode cX11_tell 153 = .ok (.ireturn, 1) := by decide +kernel
theorem dX11_untell_0 : decode cX11_untell 0 = .ok (.iload_n 1, 1) := by decide +kernel
theorem dX11_untell_1 : decode cX11_untell 1 = .ok (.ifCond .lt 20, 3) := by decide +kernel
theorem dX11_untell_4 : decode cX11_untell 4 = .ok (.iload_n 1, 1) := by decide +kernel
theorem dX11_untell_5 : decode cX11_untell 5 = .ok (.aload_n 0, 1) := by decide +kernel
theorem dX11_untell_6 : decode cX11_untell 6 = .ok (.getfield 401, 3) := by decide +kernel
theorem dX11_untell_9 : decode cX11_untell 9 = .ok (.if_icmp .ge 12, 3) := by decide +kernel
theorem dX11_untell_12 : decode cX11_untell 12 = .ok (.aload_n 0, 1) := by decide +kernel
theorem dX11_untell_13 : decode cX11_untell 13 = .ok (.getfield 147, 3) := by decide +kernel
theorem dX11_untell_16 : decode cX11_untell 16 = .ok (.iload_n 1, 1) := by decide +kernel
theorem dX11_untell_17 : decode cX11_untell 17 = .ok (.iaload, 1) := by decide +kernel
theorem dX11_untell_18 : decode cX11_untell 18 = .ok (.ifCond .lt 5, 3) := by decide +kernel
theorem dX11_untell_21 : decode cX11_untell 21 = .ok (.iconst 0, 1) := by decide +kernel
theorem dX11_untell_22 : decode cX11_untell 22 = .ok (.ireturn, 1) := by decide +kernel
theorem dX11_untell_23 : decode cX11_untell 23 = .ok (.aload_n 0, 1) := by decide +kernel
theorem dX11_untell_24 : decode cX11_untell 24 = .ok (.getfield 147, 3) := by decide +kernel
theorem dX11_untell_27 : decode cX11_untell 27 = .ok (.iload_n 1, 1) := by decide +kernel
theorem dX11_untell_28 : decode cX11_untell 28 = .ok (.aload_n 0, 1) := by decide +kernel
theorem dX11_untell_29 : decode cX11_untell 29 = .ok (.getfield 332, 3) := by decide +kernel
theorem dX11_untell_32 : decode cX11_untell 32 = .ok (.iastore, 1) := by decide +kernel
theorem dX11_untell_33 : decode cX11_untell 33 = .ok (.iconst 1, 1) := by decide +kernel
theorem dX11_untell_34 : decode cX11_untell 34 = .ok (.ireturn, 1) := by decide +kernel
theorem dX11_count_0 : decode cX11_count 0 = .ok (.iconst 0, 1) := by decide +kernel
theorem dX11_count_1 : decode cX11_count 1 = .ok (.istore 5, 2) := by decide +kernel
theorem dX11_count_3 : decode cX11_count 3 = .ok (.iload 5, 2) := by decide +kernel
theorem dX11_count_5 : decode cX11_count 5 = .ok (.iconst 5, 1) := by decide +kernel
theorem dX11_count_6 : decode cX11_count 6 = .ok (.if_icmp .ge 17, 3) := by decide +kernel
theorem dX11_count_9 : decode cX11_count 9 = .ok (.aload_n 0, 1) := by decide +kernel
theorem dX11_count_10 : decode cX11_count 10 = .ok (.getfield 150, 3) := by decide +kernel
theorem dX11_count_13 : decode cX11_count 13 = .ok (.iload 5, 2) := by decide +kernel
theorem dX11_count_15 : decode cX11_count 15 = .ok (.iconst (-1), 1) := by decide +kernel
theorem dX11_count_16 : decode cX11_count 16 = .ok (.iastore, 1) := by decide +kernel
theorem dX11_count_17 : decode cX11_count 17 = .ok (.iinc 5 1, 3) := by decide +kernel
theorem dX11_count_20 : decode cX11_count 20 = .ok (.goto (-17), 3) := by decide +kernel
theorem dX11_count_23 : decode cX11_count 23 = .ok (.iconst 0, 1) := by decide +kernel
theorem dX11_count_24 : decode cX11_count 24 = .ok (.istore 5, 2) := by decide +kernel
theorem dX11_count_26 : decode cX11_count 26 = .ok (.iload 5, 2) := by decide +kernel
theorem dX11_count_28 : decode cX11_count 28 = .ok (.aload_n 0, 1) := by decide +kernel
theorem dX11_count_29 : decode cX11_count 29 = .ok (.getfield 401, 3) := by decide +kernel
theorem dX11_count_32 : decode cX11_count 32 = .ok (.if_icmp .ge 95, 3) := by decide +kernel
theorem dX11_count_35 : decode cX11_count 35 = .ok (.aload_n 0, 1) := by decide +kernel
theorem dX11_count_36 : decode cX11_count 36 = .ok (.getfield 132, 3) := by decide +kernel
theorem dX11_count_39 : decode cX11_count 39 = .ok (.iload 5, 2) := by decide +kernel
theorem dX11_count_41 : decode cX11_count 41 = .ok (.iaload, 1) := by decide +kernel
theorem dX11_count_42 : decode cX11_count 42 = .ok (.iload_n 1, 1) := by decide +kernel
theorem dX11_count_43 : decode cX11_count 43 = .ok (.if_icmp .ne 78, 3) := by decide +kernel
theorem dX11_count_46 : decode cX11_count 46 = .ok (.aload_n 0, 1) := by decide +kernel
theorem dX11_count_47 : decode cX11_count 47 = .ok (.getfield 135, 3) := by decide +kernel
theorem dX11_count_50 : decode cX11_count 50 = .ok (.iload 5, 2) := by decide +kernel
theorem dX11_count_52 : decode cX11_count 52 = .ok (.iaload, 1) := by decide +kernel
theorem dX11_count_53 : decode cX11_count 53 = .ok (.iload_n 2, 1) := by decide +kernel
theorem dX11_count_54 : decode cX11_count 54 = .ok (.if_icmp .ne 67, 3) := by decide +kernel
theorem dX11_count_57 : decode cX11_count 57 = .ok (.aload_n 0, 1) := by decide +kernel
theorem dX11_count_58 : decode cX11_count 58 = .ok (.getfield 138, 3) := by decide +kernel
theorem dX11_count_61 : decode cX11_count 61 = .ok (.iload 5, 2) := by decide +kernel
theorem dX11_count_63 : decode cX11_count 63 = .ok (.iaload, 1) := by decide +kernel
theorem dX11_count_64 : decode cX11_count 64 = .ok (.iload_n 3, 1) := by decide +kernel
theorem dX11_count_65 : decode cX11_count 65 = .ok (.if_icmp .ne 56, 3) := by decide +kernel
theorem dX11_count_68 : decode cX11_count 68 = .ok (.aload_n 0, 1) := by decide +kernel
theorem dX11_count_69 : decode cX11_count 69 = .ok (.getfield 144, 3) := by decide +kernel
theorem dX11_count_72 : decode cX11_count 72 = .ok (.iload 5, 2) := by decide +kernel
theorem dX11_count_74 : decode cX11_count 74 = .ok (.iaload, 1) := by decide +kernel
theorem dX11_count_75 : decode cX11_count 75 = .ok (.iload 4, 2) := by decide +kernel
theorem dX11_count_77 : decode cX11_count 77 = .ok (.if_icmp .gt 44, 3) := by decide +kernel
theorem dX11_count_80 : decode cX11_count 80 = .ok (.aload_n 0, 1) := by decide +kernel
theorem dX11_count_81 : decode cX11_count 81 = .ok (.getfield 147, 3) := by decide +kernel
theorem dX11_count_84 : decode cX11_count 84 = .ok (.iload 5, 2) := by decide +kernel
theorem dX11_count_86 : decode cX11_count 86 = .ok (.iaload, 1) := by decide +kernel
theorem dX11_count_87 : decode cX11_count 87 = .ok (.ifCond .lt 15, 3) := by decide +kernel
theorem dX11_count_90 : decode cX11_count 90 = .ok (.aload_n 0, 1) := by decide +kernel
theorem dX11_count_91 : decode cX11_count 91 = .ok (.getfield 147, 3) := by decide +kernel
theorem dX11_count_94 : decode cX11_count 94 = .ok (.iload 5, 2) := by decide +kernel
theorem dX11_count_96 : decode cX11_count 96 = .ok (.iaload, 1) := by decide +kernel
theorem dX11_count_97 : decode cX11_count 97 = .ok (.iload 4, 2) := by decide +kernel
theorem dX11_count_99 : decode cX11_count 99 = .ok (.if_icmp .le 22, 3) := by decide +kernel
theorem dX11_count_102 : decode cX11_count 102 = .ok (.aload_n 0, 1) := by decide +kernel
theorem dX11_count_103 : decode cX11_count 103 = .ok (.getfield 150, 3) := by decide +kernel
theorem dX11_count_106 : decode cX11_count 106 = .ok (.aload_n 0, 1) := by decide +kernel
theorem dX11_count_107 : decode cX11_count 107 = .ok (.getfield 129, 3) := by decide +kernel
theorem dX11_count_110 : decode cX11_count 110 = .ok (.iload 5, 2) := by decide +kernel
theorem dX11_count_112 : decode cX11_count 112 = .ok (.iaload, 1) := by decide +kernel
theorem dX11_count_113 : decode cX11_count 113 = .ok (.aload_n 0, 1) := by decide +kernel
theorem dX11_count_114 : decode cX11_count 114 = .ok (.getfield 141, 3) := by decide +kernel
theorem dX11_count_117 : decode cX11_count 117 = .ok (.iload 5, 2) := by decide +kernel
theorem dX11_count_119 : decode cX11_count 119 = .ok (.iaload, 1) := by decide +kernel
theorem dX11_count_120 : decode cX11_count 120 = .ok (.iastore, 1) := by decide +kernel
theorem dX11_count_121 : decode cX11_count 121 = .ok (.iinc 5 1, 3) := by decide +kernel
theorem dX11_count_124 : decode cX11_count 124 = .ok (.goto (-98), 3) := by decide +kernel
theorem dX11_count_127 : decode cX11_count 127 = .ok (.iconst (-1), 1) := by decide +kernel
theorem dX11_count_128 : decode cX11_count 128 = .ok (.istore 5, 2) := by decide +kernel
theorem dX11_count_130 : decode cX11_count 130 = .ok (.aload_n 0, 1) := by decide +kernel
theorem dX11_count_131 : decode cX11_count 131 = .ok (.iconst 0, 1) := by decide +kernel
theorem dX11_count_132 : decode cX11_count 132 = .ok (.putfield 404, 3) := by decide +kernel
theorem dX11_count_135 : decode cX11_count 135 = .ok (.iconst 0, 1) := by decide +kernel
theorem dX11_count_136 : decode cX11_count 136 = .ok (.istore 6, 2) := by decide +kernel
theorem dX11_count_138 : decode cX11_count 138 = .ok (.iload 6, 2) := by decide +kernel
theorem dX11_count_140 : decode cX11_count 140 = .ok (.iconst 5, 1) := by decide +kernel
theorem dX11_count_141 : decode cX11_count 141 = .ok (.if_icmp .ge 117, 3) := by decide +kernel
theorem dX11_count_144 : decode cX11_count 144 = .ok (.iconst 0, 1) := by decide +kernel
theorem dX11_count_145 : decode cX11_count 145 = .ok (.istore 7, 2) := by decide +kernel
theorem dX11_count_147 : decode cX11_count 147 = .ok (.iconst 0, 1) := by decide +kernel
theorem dX11_count_148 : decode cX11_count 148 = .ok (.istore 8, 2) := by decide +kernel
theorem dX11_count_150 : decode cX11_count 150 = .ok (.iload 8, 2) := by decide +kernel
theorem dX11_count_152 : decode cX11_count 152 = .ok (.iconst 5, 1) := by decide +kernel
theorem dX11_count_153 : decode cX11_count 153 = .ok (.if_icmp .ge 46, 3) := by decide +kernel
theorem dX11_count_156 : decode cX11_count 156 = .ok (.iload 7, 2) := by decide +kernel
theorem dX11_count_158 : decode cX11_count 158 = .ok (.aload_n 0, 1) := by decide +kernel
theorem dX11_count_159 : decode cX11_count 159 = .ok (.getfield 150, 3) := by decide +kernel
theorem dX11_count_162 : decode cX11_count 162 = .ok (.iload 6, 2) := by decide +kernel
theorem dX11_count_164 : decode cX11_count 164 = .ok (.iaload, 1) := by decide +kernel
theorem dX11_count_165 : decode cX11_count 165 = .ok (.ifCond .lt 24, 3) := by decide +kernel
theorem dX11_count_168 : decode cX11_count 168 = .ok (.aload_n 0, 1) := by decide +kernel
theorem dX11_count_169 : decode cX11_count 169 = .ok (.getfield 150, 3) := by decide +kernel
theorem dX11_count_172 : decode cX11_count 172 = .ok (.iload 8, 2) := by decide +kernel
theorem dX11_count_174 : decode cX11_count 174 = .ok (.iaload, 1) := by decide +kernel
theorem dX11_count_175 : decode cX11_count 175 = .ok (.aload_n 0, 1) := by decide +kernel
theorem dX11_count_176 : decode cX11_count 176 = .ok (.getfield 150, 3) := by decide +kernel
theorem dX11_count_179 : decode cX11_count 179 = .ok (.iload 6, 2) := by decide +kernel
theorem dX11_count_181 : decode cX11_count 181 = .ok (.iaload, 1) := by decide +kernel
theorem dX11_count_182 : decode cX11_count 182 = .ok (.if_icmp .ne 7, 3) := by decide +kernel
theorem dX11_count_185 : decode cX11_count 185 = .ok (.iconst 1, 1) := by decide +kernel
theorem dX11_count_186 : decode cX11_count 186 = .ok (.goto 4, 3) := by decide +kernel
theorem dX11_count_189 : decode cX11_count 189 = .ok (.iconst 0, 1) := by decide +kernel
theorem dX11_count_190 : decode cX11_count 190 = .ok (.iadd, 1) := by decide +kernel
theorem dX11_count_191 : decode cX11_count 191 = .ok (.istore 7, 2) := by decide +kernel
theorem dX11_count_193 : decode cX11_count 193 = .ok (.iinc 8 1, 3) := by decide +kernel
theorem dX11_count_196 : decode cX11_count 196 = .ok (.goto (-46), 3) := by decide +kernel
theorem dX11_count_199 : decode cX11_count 199 = .ok (.iload 7, 2) := by decide +kernel
theorem dX11_count_201 : decode cX11_count 201 = .ok (.aload_n 0, 1) := by decide +kernel
theorem dX11_count_202 : decode cX11_count 202 = .ok (.getfield 404, 3) := by decide +kernel
theorem dX11_count_205 : decode cX11_count 205 = .ok (.if_icmp .lt 47, 3) := by decide +kernel
theorem dX11_count_208 : decode cX11_count 208 = .ok (.iload 7, 2) := by decide +kernel
theorem dX11_count_210 : decode cX11_count 210 = .ok (.ifCond .eq 42, 3) := by decide +kernel
theorem dX11_count_213 : decode cX11_count 213 = .ok (.iload 7, 2) := by decide +kernel
theorem dX11_count_215 : decode cX11_count 215 = .ok (.aload_n 0, 1) := by decide +kernel
theorem dX11_count_216 : decode cX11_count 216 = .ok (.getfield 404, 3) := by decide +kernel
theorem dX11_count_219 : decode cX11_count 219 = .ok (.if_icmp .ne 18, 3) := by decide +kernel
theorem dX11_count_222 : decode cX11_count 222 = .ok (.aload_n 0, 1) := by decide +kernel
theorem dX11_count_223 : decode cX11_count 223 = .ok (.getfield 150, 3) := by decide +kernel
theorem dX11_count_226 : decode cX11_count 226 = .ok (.iload 6, 2) := by decide +kernel
theorem dX11_count_228 : decode cX11_count 228 = .ok (.iaload, 1) := by decide +kernel
theorem dX11_count_229 : decode cX11_count 229 = .ok (.iload 5, 2) := by decide +kernel
theorem dX11_count_231 : decode cX11_count 231 = .ok (.if_icmp .lt 6, 3) := by decide +kernel
theorem dX11_count_234 : decode cX11_count 234 = .ok (.goto 18, 3) := by decide +kernel
theorem dX11_count_237 : decode cX11_count 237 = .ok (.aload_n 0, 1) := by decide +kernel
theorem dX11_count_238 : decode cX11_count 238 = .ok (.iload 7, 2) := by decide +kernel
theorem dX11_count_240 : decode cX11_count 240 = .ok (.putfield 404, 3) := by decide +kernel
theorem dX11_count_243 : decode cX11_count 243 = .ok (.aload_n 0, 1) := by decide +kernel
theorem dX11_count_244 : decode cX11_count 244 = .ok (.getfield 150, 3) := by decide +kernel
theorem dX11_count_247 : decode cX11_count 247 = .ok (.iload 6, 2) := by decide +kernel
theorem dX11_count_249 : decode cX11_count 249 = .ok (.iaload, 1) := by decide +kernel
theorem dX11_count_250 : decode cX11_count 250 = .ok (.istore 5, 2) := by decide +kernel
theorem dX11_count_252 : decode cX11_count 252 = .ok (.iinc 6 1, 3) := by decide +kernel
theorem dX11_count_255 : decode cX11_count 255 = .ok (.goto (-117), 3) := by decide +kernel
theorem dX11_count_258 : decode cX11_count 258 = .ok (.iload 5, 2) := by decide +kernel
theorem dX11_count_260 : decode cX11_count 260 = .ok (.ireturn, 1) := by decide +kernel
theorem dX11_agree_0 : decode cX11_agree 0 = .ok (.aload_n 0, 1) := by decide +kernel
theorem dX11_agree_1 : decode cX11_agree 1 = .ok (.iload_n 1, 1) := by decide +kernel
theorem dX11_agree_2 : decode cX11_agree 2 = .ok (.iload_n 2, 1) := by decide +kernel
theorem dX11_agree_3 : decode cX11_agree 3 = .ok (.iload_n 3, 1) := by decide +kernel
theorem dX11_agree_4 : decode cX11_agree 4 = .ok (.iload 4, 2) := by decide +kernel
theorem dX11_agree_6 : decode cX11_agree 6 = .ok (.invokevirtual 407, 3) := by decide +kernel
theorem dX11_agree_9 : decode cX11_agree 9 = .ok (.pop, 1) := by decide +kernel
theorem dX11_agree_10 : decode cX11_agree 10 = .ok (.aload_n 0, 1) := by decide +kernel
theorem dX11_agree_11 : decode cX11_agree 11 = .ok (.getfield 404, 3) := by decide +kernel
theorem dX11_agree_14 : decode cX11_agree 14 = .ok (.ireturn, 1) := by decide +kernel
theorem dX11_of_0 : decode cX11_of 0 = .ok (.aload_n 0, 1) := by decide +kernel
theorem dX11_of_1 : decode cX11_of 1 = .ok (.iload_n 1, 1) := by decide +kernel
theorem dX11_of_2 : decode cX11_of 2 = .ok (.invokevirtual 157, 3) := by decide +kernel
theorem dX11_of_5 : decode cX11_of 5 = .ok (.ifCond .ne 5, 3) := by decide +kernel
theorem dX11_of_8 : decode cX11_of 8 = .ok (.iconst (-1), 1) := by decide +kernel
theorem dX11_of_9 : decode cX11_of 9 = .ok (.ireturn, 1) := by decide +kernel
theorem dX11_of_10 : decode cX11_of 10 = .ok (.iload_n 2, 1) := by decide +kernel
theorem dX11_of_11 : decode cX11_of 11 = .ok (.tableswitch 56 0 3 #[29, 36, 43, 50], 29) := by decide +kernel
theorem dX11_of_40 : decode cX11_of 40 = .ok (.aload_n 0, 1) := by decide +kernel
theorem dX11_of_41 : decode cX11_of 41 = .ok (.getfield 7, 3) := by decide +kernel
theorem dX11_of_44 : decode cX11_of 44 = .ok (.iload_n 1, 1) := by decide +kernel
theorem dX11_of_45 : decode cX11_of 45 = .ok (.iaload, 1) := by decide +kernel
theorem dX11_of_46 : decode cX11_of 46 = .ok (.ireturn, 1) := by decide +kernel
theorem dX11_of_47 : decode cX11_of 47 = .ok (.aload_n 0, 1) := by decide +kernel
theorem dX11_of_48 : decode cX11_of 48 = .ok (.getfield 13, 3) := by decide +kernel
theorem dX11_of_51 : decode cX11_of 51 = .ok (.iload_n 1, 1) := by decide +kernel
theorem dX11_of_52 : decode cX11_of 52 = .ok (.iaload, 1) := by decide +kernel
theorem dX11_of_53 : decode cX11_of 53 = .ok (.ireturn, 1) := by decide +kernel
theorem dX11_of_54 : decode cX11_of 54 = .ok (.aload_n 0, 1) := by decide +kernel
theorem dX11_of_55 : decode cX11_of 55 = .ok (.getfield 16, 3) := by decide +kernel
theorem dX11_of_58 : decode cX11_of 58 = .ok (.iload_n 1, 1) := by decide +kernel
theorem dX11_of_59 : decode cX11_of 59 = .ok (.iaload, 1) := by decide +kernel
theorem dX11_of_60 : decode cX11_of 60 = .ok (.ireturn, 1) := by decide +kernel
theorem dX11_of_61 : decode cX11_of 61 = .ok (.aload_n 0, 1) := by decide +kernel
theorem dX11_of_62 : decode cX11_of 62 = .ok (.iload_n 1, 1) := by decide +kernel
theorem dX11_of_63 : decode cX11_of 63 = .ok (.invokevirtual 172, 3) := by decide +kernel
theorem dX11_of_66 : decode cX11_of 66 = .ok (.ireturn, 1) := by decide +kernel
theorem dX11_of_67 : decode cX11_of 67 = .ok (.aload_n 0, 1) := by decide +kernel
theorem dX11_of_68 : decode cX11_of 68 = .ok (.iload_n 2, 1) := by decide +kernel
theorem dX11_of_69 : decode cX11_of 69 = .ok (.bipush 10, 2) := by decide +kernel
theorem dX11_of_71 : decode cX11_of 71 = .ok (.isub, 1) := by decide +kernel
theorem dX11_of_72 : decode cX11_of 72 = .ok (.invokevirtual 157, 3) := by decide +kernel
theorem dX11_of_75 : decode cX11_of 75 = .ok (.ifCond .eq 20, 3) := by decide +kernel
theorem dX11_of_78 : decode cX11_of 78 = .ok (.aload_n 0, 1) := by decide +kernel
theorem dX11_of_79 : decode cX11_of 79 = .ok (.getfield 19, 3) := by decide +kernel
theorem dX11_of_82 : decode cX11_of 82 = .ok (.bipush 8, 2) := by decide +kernel
theorem dX11_of_84 : decode cX11_of 84 = .ok (.iload_n 1, 1) := by decide +kernel
theorem dX11_of_85 : decode cX11_of 85 = .ok (.imul, 1) := by decide +kernel
theorem dX11_of_86 : decode cX11_of 86 = .ok (.iload_n 2, 1) := by decide +kernel
theorem dX11_of_87 : decode cX11_of 87 = .ok (.iadd, 1) := by decide +kernel
theorem dX11_of_88 : decode cX11_of 88 = .ok (.bipush 10, 2) := by decide +kernel
theorem dX11_of_90 : decode cX11_of 90 = .ok (.isub, 1) := by decide +kernel
theorem dX11_of_91 : decode cX11_of 91 = .ok (.iaload, 1) := by decide +kernel
theorem dX11_of_92 : decode cX11_of 92 = .ok (.goto 4, 3) := by decide +kernel
theorem dX11_of_95 : decode cX11_of 95 = .ok (.iconst (-1), 1) := by decide +kernel
theorem dX11_of_96 : decode cX11_of 96 = .ok (.ireturn, 1) := by decide +kernel
theorem dX11_about_0 : decode cX11_about 0 = .ok (.iload_n 1, 1) := by decide +kernel
theorem dX11_about_1 : decode cX11_about 1 = .ok (.tableswitch 83 0 6 #[43, 48, 53, 63, 68, 73, 78], 43) := by decide +kernel
theorem dX11_about_44 : decode cX11_about 44 = .ok (.aload_n 0, 1) := by decide +kernel
theorem dX11_about_45 : decode cX11_about 45 = .ok (.getfield 332, 3) := by decide +kernel
theorem dX11_about_48 : decode cX11_about 48 = .ok (.ireturn, 1) := by decide +kernel
theorem dX11_about_49 : decode cX11_about 49 = .ok (.aload_n 0, 1) := by decide +kernel
theorem dX11_about_50 : decode cX11_about 50 = .ok (.getfield 153, 3) := by decide +kernel
theorem dX11_about_53 : decode cX11_about 53 = .ok (.ireturn, 1) := by decide +kernel
theorem dX11_about_54 : decode cX11_about 54 = .ok (.aload_n 0, 1) := by decide +kernel
theorem dX11_about_55 : decode cX11_about 55 = .ok (.getfield 42, 3) := by decide +kernel
theorem dX11_about_58 : decode cX11_about 58 = .ok (.aload_n 0, 1) := by decide +kernel
theorem dX11_about_59 : decode cX11_about 59 = .ok (.getfield 255, 3) := by decide +kernel
theorem dX11_about_62 : decode cX11_about 62 = .ok (.iaload, 1) := by decide +kernel
theorem dX11_about_63 : decode cX11_about 63 = .ok (.ireturn, 1) := by decide +kernel
theorem dX11_about_64 : decode cX11_about 64 = .ok (.aload_n 0, 1) := by decide +kernel
theorem dX11_about_65 : decode cX11_about 65 = .ok (.getfield 365, 3) := by decide +kernel
theorem dX11_about_68 : decode cX11_about 68 = .ok (.ireturn, 1) := by decide +kernel
theorem dX11_about_69 : decode cX11_about 69 = .ok (.aload_n 0, 1) := by decide +kernel
theorem dX11_about_70 : decode cX11_about 70 = .ok (.getfield 394, 3) := by decide +kernel
theorem dX11_about_73 : decode cX11_about 73 = .ok (.ireturn, 1) := by decide +kernel
theorem dX11_about_74 : decode cX11_about 74 = .ok (.aload_n 0, 1) := by decide +kernel
theorem dX11_about_75 : decode cX11_about 75 = .ok (.getfield 401, 3) := by decide +kernel
theorem dX11_about_78 : decode cX11_about 78 = .ok (.ireturn, 1) := by decide +kernel
theorem dX11_about_79 : decode cX11_about 79 = .ok (.aload_n 0, 1) := by decide +kernel
theorem dX11_about_80 : decode cX11_about 80 = .ok (.getfield 252, 3) := by decide +kernel
theorem dX11_about_83 : decode cX11_about 83 = .ok (.ireturn, 1) := by decide +kernel
theorem dX11_about_84 : decode cX11_about 84 = .ok (.iload_n 1, 1) := by decide +kernel
theorem dX11_about_85 : decode cX11_about 85 = .ok (.bipush 10, 2) := by decide +kernel
theorem dX11_about_87 : decode cX11_about 87 = .ok (.isub, 1) := by decide +kernel
theorem dX11_about_88 : decode cX11_about 88 = .ok (.invokestatic 161, 3) := by decide +kernel
theorem dX11_about_91 : decode cX11_about 91 = .ok (.ifCond .eq 15, 3) := by decide +kernel
theorem dX11_about_94 : decode cX11_about 94 = .ok (.aload_n 0, 1) := by decide +kernel
theorem dX11_about_95 : decode cX11_about 95 = .ok (.getfield 22, 3) := by decide +kernel
theorem dX11_about_98 : decode cX11_about 98 = .ok (.iload_n 1, 1) := by decide +kernel
theorem dX11_about_99 : decode cX11_about 99 = .ok (.bipush 10, 2) := by decide +kernel
theorem dX11_about_101 : decode cX11_about 101 = .ok (.isub, 1) := by decide +kernel
theorem dX11_about_102 : decode cX11_about 102 = .ok (.iaload, 1) := by decide +kernel
theorem dX11_about_103 : decode cX11_about 103 = .ok (.goto 4, 3) := by decide +kernel
theorem dX11_about_106 : decode cX11_about 106 = .ok (.iconst (-1), 1) := by decide +kernel
theorem dX11_about_107 : decode cX11_about 107 = .ok (.ireturn, 1) := by decide +kernel
theorem dX11_feed_0 : decode cX11_feed 0 = .ok (.aload_n 0, 1) := by decide +kernel
theorem dX11_feed_1 : decode cX11_feed 1 = .ok (.getfield 252, 3) := by decide +kernel
theorem dX11_feed_4 : decode cX11_feed 4 = .ok (.bipush 20, 2) := by decide +kernel
theorem dX11_feed_6 : decode cX11_feed 6 = .ok (.iadd, 1) := by decide +kernel
theorem dX11_feed_7 : decode cX11_feed 7 = .ok (.sipush 1000, 3) := by decide +kernel
theorem dX11_feed_10 : decode cX11_feed 10 = .ok (.if_icmp .le 5, 3) := by decide +kernel
theorem dX11_feed_13 : decode cX11_feed 13 = .ok (.iconst (-1), 1) := by decide +kernel
theorem dX11_feed_14 : decode cX11_feed 14 = .ok (.ireturn, 1) := by decide +kernel
theorem dX11_feed_15 : decode cX11_feed 15 = .ok (.iconst 0, 1) := by decide +kernel
theorem dX11_feed_16 : decode cX11_feed 16 = .ok (.istore 6, 2) := by decide +kernel
theorem dX11_feed_18 : decode cX11_feed 18 = .ok (.iload 6, 2) := by decide +kernel
theorem dX11_feed_20 : decode cX11_feed 20 = .ok (.bipush 20, 2) := by decide +kernel
theorem dX11_feed_22 : decode cX11_feed 22 = .ok (.if_icmp .ge 83, 3) := by decide +kernel
theorem dX11_feed_25 : decode cX11_feed 25 = .ok (.iload 6, 2) := by decide +kernel
theorem dX11_feed_27 : decode cX11_feed 27 = .ok (.iconst 4, 1) := by decide +kernel
end
section
theorem dX11_feed_28 : decode cX11_feed 28 = .ok (.if_icmp .ge 7, 3) := by decide +kernel
theorem dX11_feed_31 : decode cX11_feed 31 = .ok (.iload_n 1, 1) := by decide +kernel
theorem dX11_feed_32 : decode cX11_feed 32 = .ok (.goto 39, 3) := by decide +kernel
theorem dX11_feed_35 : decode cX11_feed 35 = .ok (.iload 6, 2) := by decide +kernel
theorem dX11_feed_37 : decode cX11_feed 37 = .ok (.bipush 8, 2) := by decide +kernel
theorem dX11_feed_39 : decode cX11_feed 39 = .ok (.if_icmp .ge 7, 3) := by decide +kernel
theorem dX11_feed_42 : decode cX11_feed 42 = .ok (.iload_n 2, 1) := by decide +kernel
theorem dX11_feed_43 : decode cX11_feed 43 = .ok (.goto 28, 3) := by decide +kernel
theorem dX11_feed_46 : decode cX11_feed 46 = .ok (.iload 6, 2) := by decide +kernel
theorem dX11_feed_48 : decode cX11_feed 48 = .ok (.bipush 12, 2) := by decide +kernel
theorem dX11_feed_50 : decode cX11_feed 50 = .ok (.if_icmp .ge 7, 3) := by decide +kernel
theorem dX11_feed_53 : decode cX11_feed 53 = .ok (.iload_n 3, 1) := by decide +kernel
theorem dX11_feed_54 : decode cX11_feed 54 = .ok (.goto 17, 3) := by decide +kernel
theorem dX11_feed_57 : decode cX11_feed 57 = .ok (.iload 6, 2) := by decide +kernel
theorem dX11_feed_59 : decode cX11_feed 59 = .ok (.bipush 16, 2) := by decide +kernel
theorem dX11_feed_61 : decode cX11_feed 61 = .ok (.if_icmp .ge 8, 3) := by decide +kernel
theorem dX11_feed_64 : decode cX11_feed 64 = .ok (.iload 4, 2) := by decide +kernel
theorem dX11_feed_66 : decode cX11_feed 66 = .ok (.goto 5, 3) := by decide +kernel
theorem dX11_feed_69 : decode cX11_feed 69 = .ok (.iload 5, 2) := by decide +kernel
theorem dX11_feed_71 : decode cX11_feed 71 = .ok (.istore 7, 2) := by decide +kernel
theorem dX11_feed_73 : decode cX11_feed 73 = .ok (.aload_n 0, 1) := by decide +kernel
theorem dX11_feed_74 : decode cX11_feed 74 = .ok (.getfield 31, 3) := by decide +kernel
theorem dX11_feed_77 : decode cX11_feed 77 = .ok (.aload_n 0, 1) := by decide +kernel
theorem dX11_feed_78 : decode cX11_feed 78 = .ok (.getfield 252, 3) := by decide +kernel
theorem dX11_feed_81 : decode cX11_feed 81 = .ok (.iload 6, 2) := by decide +kernel
theorem dX11_feed_83 : decode cX11_feed 83 = .ok (.iadd, 1) := by decide +kernel
theorem dX11_feed_84 : decode cX11_feed 84 = .ok (.iload 7, 2) := by decide +kernel
theorem dX11_feed_86 : decode cX11_feed 86 = .ok (.bipush 24, 2) := by decide +kernel
theorem dX11_feed_88 : decode cX11_feed 88 = .ok (.bipush 8, 2) := by decide +kernel
theorem dX11_feed_90 : decode cX11_feed 90 = .ok (.iload 6, 2) := by decide +kernel
theorem dX11_feed_92 : decode cX11_feed 92 = .ok (.iconst 3, 1) := by decide +kernel
theorem dX11_feed_93 : decode cX11_feed 93 = .ok (.iand, 1) := by decide +kernel
theorem dX11_feed_94 : decode cX11_feed 94 = .ok (.imul, 1) := by decide +kernel
theorem dX11_feed_95 : decode cX11_feed 95 = .ok (.isub, 1) := by decide +kernel
theorem dX11_feed_96 : decode cX11_feed 96 = .ok (.ishr, 1) := by decide +kernel
theorem dX11_feed_97 : decode cX11_feed 97 = .ok (.i2b, 1) := by decide +kernel
theorem dX11_feed_98 : decode cX11_feed 98 = .ok (.bastore, 1) := by decide +kernel
theorem dX11_feed_99 : decode cX11_feed 99 = .ok (.iinc 6 1, 3) := by decide +kernel
theorem dX11_feed_102 : decode cX11_feed 102 = .ok (.goto (-84), 3) := by decide +kernel
theorem dX11_feed_105 : decode cX11_feed 105 = .ok (.aload_n 0, 1) := by decide +kernel
theorem dX11_feed_106 : decode cX11_feed 106 = .ok (.dup, 1) := by decide +kernel
theorem dX11_feed_107 : decode cX11_feed 107 = .ok (.getfield 252, 3) := by decide +kernel
theorem dX11_feed_110 : decode cX11_feed 110 = .ok (.bipush 20, 2) := by decide +kernel
theorem dX11_feed_112 : decode cX11_feed 112 = .ok (.iadd, 1) := by decide +kernel
theorem dX11_feed_113 : decode cX11_feed 113 = .ok (.putfield 252, 3) := by decide +kernel
theorem dX11_feed_116 : decode cX11_feed 116 = .ok (.aload_n 0, 1) := by decide +kernel
theorem dX11_feed_117 : decode cX11_feed 117 = .ok (.getfield 252, 3) := by decide +kernel
theorem dX11_feed_120 : decode cX11_feed 120 = .ok (.ireturn, 1) := by decide +kernel
theorem dX11_end_0 : decode cX11_end 0 = .ok (.iload_n 1, 1) := by decide +kernel
theorem dX11_end_1 : decode cX11_end 1 = .ok (.ifCond .lt 11, 3) := by decide +kernel
theorem dX11_end_4 : decode cX11_end 4 = .ok (.iload_n 1, 1) := by decide +kernel
theorem dX11_end_5 : decode cX11_end 5 = .ok (.aload_n 0, 1) := by decide +kernel
theorem dX11_end_6 : decode cX11_end 6 = .ok (.getfield 252, 3) := by decide +kernel
theorem dX11_end_9 : decode cX11_end 9 = .ok (.if_icmp .le 5, 3) := by decide +kernel
theorem dX11_end_12 : decode cX11_end 12 = .ok (.iconst (-1), 1) := by decide +kernel
theorem dX11_end_13 : decode cX11_end 13 = .ok (.ireturn, 1) := by decide +kernel
theorem dX11_end_14 : decode cX11_end 14 = .ok (.aload_n 0, 1) := by decide +kernel
theorem dX11_end_15 : decode cX11_end 15 = .ok (.iload_n 1, 1) := by decide +kernel
theorem dX11_end_16 : decode cX11_end 16 = .ok (.putfield 252, 3) := by decide +kernel
theorem dX11_end_19 : decode cX11_end 19 = .ok (.iload_n 1, 1) := by decide +kernel
theorem dX11_end_20 : decode cX11_end 20 = .ok (.ireturn, 1) := by decide +kernel
theorem dJ9_min_7cf53_0 : decode cJ9_min_7cf53 0 = .ok (.iload_n 0, 1) := by decide +kernel
theorem dJ9_min_7cf53_1 : decode cJ9_min_7cf53 1 = .ok (.iload_n 1, 1) := by decide +kernel
theorem dJ9_min_7cf53_2 : decode cJ9_min_7cf53 2 = .ok (.if_icmp .gt 7, 3) := by decide +kernel
theorem dJ9_min_7cf53_5 : decode cJ9_min_7cf53 5 = .ok (.iload_n 0, 1) := by decide +kernel
theorem dJ9_min_7cf53_6 : decode cJ9_min_7cf53 6 = .ok (.goto 4, 3) := by decide +kernel
theorem dJ9_min_7cf53_9 : decode cJ9_min_7cf53 9 = .ok (.iload_n 1, 1) := by decide +kernel
theorem dJ9_min_7cf53_10 : decode cJ9_min_7cf53 10 = .ok (.ireturn, 1) := by decide +kernel
theorem dJ0_length_8abf5_0 : decode cJ0_length_8abf5 0 = .ok (.aload_n 0, 1) := by decide +kernel
theorem dJ0_length_8abf5_1 : decode cJ0_length_8abf5 1 = .ok (.getfield 9, 3) := by decide +kernel
theorem dJ0_length_8abf5_4 : decode cJ0_length_8abf5 4 = .ok (.arraylength, 1) := by decide +kernel
theorem dJ0_length_8abf5_5 : decode cJ0_length_8abf5 5 = .ok (.aload_n 0, 1) := by decide +kernel
theorem dJ0_length_8abf5_6 : decode cJ0_length_8abf5 6 = .ok (.invokevirtual 335, 3) := by decide +kernel
theorem dJ0_length_8abf5_9 : decode cJ0_length_8abf5 9 = .ok (.ishr, 1) := by decide +kernel
theorem dJ0_length_8abf5_10 : decode cJ0_length_8abf5 10 = .ok (.ireturn, 1) := by decide +kernel
theorem dJ0_charAt_5068e_0 : decode cJ0_charAt_5068e 0 = .ok (.aload_n 0, 1) := by decide +kernel
theorem dJ0_charAt_5068e_1 : decode cJ0_charAt_5068e 1 = .ok (.invokevirtual 492, 3) := by decide +kernel
theorem dJ0_charAt_5068e_4 : decode cJ0_charAt_5068e 4 = .ok (.ifCond .eq 12, 3) := by decide +kernel
theorem dJ0_charAt_5068e_7 : decode cJ0_charAt_5068e 7 = .ok (.aload_n 0, 1) := by decide +kernel
theorem dJ0_charAt_5068e_8 : decode cJ0_charAt_5068e 8 = .ok (.getfield 9, 3) := by decide +kernel
theorem dJ0_charAt_5068e_11 : decode cJ0_charAt_5068e 11 = .ok (.iload_n 1, 1) := by decide +kernel
theorem dJ0_charAt_5068e_12 : decode cJ0_charAt_5068e 12 = .ok (.invokestatic 495, 3) := by decide +kernel
theorem dJ0_charAt_5068e_15 : decode cJ0_charAt_5068e 15 = .ok (.ireturn, 1) := by decide +kernel
theorem dJ0_charAt_5068e_16 : decode cJ0_charAt_5068e 16 = .ok (.aload_n 0, 1) := by decide +kernel
theorem dJ0_charAt_5068e_17 : decode cJ0_charAt_5068e 17 = .ok (.getfield 9, 3) := by decide +kernel
theorem dJ0_charAt_5068e_20 : decode cJ0_charAt_5068e 20 = .ok (.iload_n 1, 1) := by decide +kernel
theorem dJ0_charAt_5068e_21 : decode cJ0_charAt_5068e 21 = .ok (.invokestatic 498, 3) := by decide +kernel
theorem dJ0_charAt_5068e_24 : decode cJ0_charAt_5068e 24 = .ok (.ireturn, 1) := by decide +kernel
theorem dJ0_coder_7d493_0 : decode cJ0_coder_7d493 0 = .ok (.getstatic 38, 3) := by decide +kernel
theorem dJ0_coder_7d493_3 : decode cJ0_coder_7d493 3 = .ok (.ifCond .eq 10, 3) := by decide +kernel
theorem dJ0_coder_7d493_6 : decode cJ0_coder_7d493 6 = .ok (.aload_n 0, 1) := by decide +kernel
theorem dJ0_coder_7d493_7 : decode cJ0_coder_7d493 7 = .ok (.getfield 15, 3) := by decide +kernel
theorem dJ0_coder_7d493_10 : decode cJ0_coder_7d493 10 = .ok (.goto 4, 3) := by decide +kernel
theorem dJ0_coder_7d493_13 : decode cJ0_coder_7d493 13 = .ok (.iconst 1, 1) := by decide +kernel
theorem dJ0_coder_7d493_14 : decode cJ0_coder_7d493 14 = .ok (.ireturn, 1) := by decide +kernel
theorem dJ0_isLatin1_aae02_0 : decode cJ0_isLatin1_aae02 0 = .ok (.getstatic 38, 3) := by decide +kernel
theorem dJ0_isLatin1_aae02_3 : decode cJ0_isLatin1_aae02 3 = .ok (.ifCond .eq 14, 3) := by decide +kernel
theorem dJ0_isLatin1_aae02_6 : decode cJ0_isLatin1_aae02 6 = .ok (.aload_n 0, 1) := by decide +kernel
theorem dJ0_isLatin1_aae02_7 : decode cJ0_isLatin1_aae02 7 = .ok (.getfield 15, 3) := by decide +kernel
theorem dJ0_isLatin1_aae02_10 : decode cJ0_isLatin1_aae02 10 = .ok (.ifCond .ne 7, 3) := by decide +kernel
theorem dJ0_isLatin1_aae02_13 : decode cJ0_isLatin1_aae02 13 = .ok (.iconst 1, 1) := by decide +kernel
theorem dJ0_isLatin1_aae02_14 : decode cJ0_isLatin1_aae02 14 = .ok (.goto 4, 3) := by decide +kernel
theorem dJ0_isLatin1_aae02_17 : decode cJ0_isLatin1_aae02 17 = .ok (.iconst 0, 1) := by decide +kernel
theorem dJ0_isLatin1_aae02_18 : decode cJ0_isLatin1_aae02 18 = .ok (.ireturn, 1) := by decide +kernel
theorem dJ0_checkIndex_df160_0 : decode cJ0_checkIndex_df160 0 = .ok (.iload_n 0, 1) := by decide +kernel
theorem dJ0_checkIndex_df160_1 : decode cJ0_checkIndex_df160 1 = .ok (.iload_n 1, 1) := by decide +kernel
theorem dJ0_checkIndex_df160_2 : decode cJ0_checkIndex_df160 2 = .ok (.getstatic 1053, 3) := by decide +kernel
theorem dJ0_checkIndex_df160_5 : decode cJ0_checkIndex_df160 5 = .ok (.invokestatic 1059, 3) := by decide +kernel
theorem dJ0_checkIndex_df160_8 : decode cJ0_checkIndex_df160 8 = .ok (.pop, 1) := by decide +kernel
theorem dJ0_checkIndex_df160_9 : decode cJ0_checkIndex_df160 9 = .ok (.return_, 1) := by decide +kernel
theorem dJ1_charAt_3b067_0 : decode cJ1_charAt_3b067 0 = .ok (.iload_n 1, 1) := by decide +kernel
theorem dJ1_charAt_3b067_1 : decode cJ1_charAt_3b067 1 = .ok (.aload_n 0, 1) := by decide +kernel
theorem dJ1_charAt_3b067_2 : decode cJ1_charAt_3b067 2 = .ok (.arraylength, 1) := by decide +kernel
theorem dJ1_charAt_3b067_3 : decode cJ1_charAt_3b067 3 = .ok (.invokestatic 9, 3) := by decide +kernel
theorem dJ1_charAt_3b067_6 : decode cJ1_charAt_3b067 6 = .ok (.aload_n 0, 1) := by decide +kernel
theorem dJ1_charAt_3b067_7 : decode cJ1_charAt_3b067 7 = .ok (.iload_n 1, 1) := by decide +kernel
theorem dJ1_charAt_3b067_8 : decode cJ1_charAt_3b067 8 = .ok (.baload, 1) := by decide +kernel
theorem dJ1_charAt_3b067_9 : decode cJ1_charAt_3b067 9 = .ok (.sipush 255, 3) := by decide +kernel
theorem dJ1_charAt_3b067_12 : decode cJ1_charAt_3b067 12 = .ok (.iand, 1) := by decide +kernel
theorem dJ1_charAt_3b067_13 : decode cJ1_charAt_3b067 13 = .ok (.i2c, 1) := by decide +kernel
theorem dJ1_charAt_3b067_14 : decode cJ1_charAt_3b067 14 = .ok (.ireturn, 1) := by decide +kernel
theorem dJ2_getChar_3b067_0 : decode cJ2_getChar_3b067 0 = .ok (.getstatic 44, 3) := by decide +kernel
theorem dJ2_getChar_3b067_3 : decode cJ2_getChar_3b067 3 = .ok (.ifCond .ne 25, 3) := by decide +kernel
theorem dJ2_getChar_3b067_6 : decode cJ2_getChar_3b067 6 = .ok (.iload_n 1, 1) := by decide +kernel
theorem dJ2_getChar_3b067_7 : decode cJ2_getChar_3b067 7 = .ok (.ifCond .lt 11, 3) := by decide +kernel
theorem dJ2_getChar_3b067_10 : decode cJ2_getChar_3b067 10 = .ok (.iload_n 1, 1) := by decide +kernel
theorem dJ2_getChar_3b067_11 : decode cJ2_getChar_3b067 11 = .ok (.aload_n 0, 1) := by decide +kernel
theorem dJ2_getChar_3b067_12 : decode cJ2_getChar_3b067 12 = .ok (.invokestatic 48, 3) := by decide +kernel
theorem dJ2_getChar_3b067_15 : decode cJ2_getChar_3b067 15 = .ok (.if_icmp .lt 13, 3) := by decide +kernel
theorem dJ2_getChar_3b067_18 : decode cJ2_getChar_3b067 18 = .ok (.new 52, 3) := by decide +kernel
theorem dJ2_getChar_3b067_21 : decode cJ2_getChar_3b067 21 = .ok (.dup, 1) := by decide +kernel
theorem dJ2_getChar_3b067_22 : decode cJ2_getChar_3b067 22 = .ok (.ldc 54, 2) := by decide +kernel
theorem dJ2_getChar_3b067_24 : decode cJ2_getChar_3b067 24 = .ok (.invokespecial 56, 3) := by decide +kernel
theorem dJ2_getChar_3b067_27 : decode cJ2_getChar_3b067 27 = .ok (.athrow, 1) := by decide +kernel
theorem dJ2_getChar_3b067_28 : decode cJ2_getChar_3b067 28 = .ok (.iload_n 1, 1) := by decide +kernel
theorem dJ2_getChar_3b067_29 : decode cJ2_getChar_3b067 29 = .ok (.iconst 1, 1) := by decide +kernel
theorem dJ2_getChar_3b067_30 : decode cJ2_getChar_3b067 30 = .ok (.ishl, 1) := by decide +kernel
theorem dJ2_getChar_3b067_31 : decode cJ2_getChar_3b067 31 = .ok (.istore_n 1, 1) := by decide +kernel
theorem dJ2_getChar_3b067_32 : decode cJ2_getChar_3b067 32 = .ok (.aload_n 0, 1) := by decide +kernel
theorem dJ2_getChar_3b067_33 : decode cJ2_getChar_3b067 33 = .ok (.iload_n 1, 1) := by decide +kernel
theorem dJ2_getChar_3b067_34 : decode cJ2_getChar_3b067 34 = .ok (.iinc 1 1, 3) := by decide +kernel
theorem dJ2_getChar_3b067_37 : decode cJ2_getChar_3b067 37 = .ok (.baload, 1) := by decide +kernel
theorem dJ2_getChar_3b067_38 : decode cJ2_getChar_3b067 38 = .ok (.sipush 255, 3) := by decide +kernel
theorem dJ2_getChar_3b067_41 : decode cJ2_getChar_3b067 41 = .ok (.iand, 1) := by decide +kernel
theorem dJ2_getChar_3b067_42 : decode cJ2_getChar_3b067 42 = .ok (.getstatic 59, 3) := by decide +kernel
theorem dJ2_getChar_3b067_45 : decode cJ2_getChar_3b067 45 = .ok (.ishl, 1) := by decide +kernel
theorem dJ2_getChar_3b067_46 : decode cJ2_getChar_3b067 46 = .ok (.aload_n 0, 1) := by decide +kernel
theorem dJ2_getChar_3b067_47 : decode cJ2_getChar_3b067 47 = .ok (.iload_n 1, 1) := by decide +kernel
theorem dJ2_getChar_3b067_48 : decode cJ2_getChar_3b067 48 = .ok (.baload, 1) := by decide +kernel
theorem dJ2_getChar_3b067_49 : decode cJ2_getChar_3b067 49 = .ok (.sipush 255, 3) := by decide +kernel
theorem dJ2_getChar_3b067_52 : decode cJ2_getChar_3b067 52 = .ok (.iand, 1) := by decide +kernel
theorem dJ2_getChar_3b067_53 : decode cJ2_getChar_3b067 53 = .ok (.getstatic 63, 3) := by decide +kernel
theorem dJ2_getChar_3b067_56 : decode cJ2_getChar_3b067 56 = .ok (.ishl, 1) := by decide +kernel
theorem dJ2_getChar_3b067_57 : decode cJ2_getChar_3b067 57 = .ok (.ior, 1) := by decide +kernel
theorem dJ2_getChar_3b067_58 : decode cJ2_getChar_3b067 58 = .ok (.i2c, 1) := by decide +kernel
theorem dJ2_getChar_3b067_59 : decode cJ2_getChar_3b067 59 = .ok (.ireturn, 1) := by decide +kernel
theorem dJ2_length_9d52b_0 : decode cJ2_length_9d52b 0 = .ok (.aload_n 0, 1) := by decide +kernel
theorem dJ2_length_9d52b_1 : decode cJ2_length_9d52b 1 = .ok (.arraylength, 1) := by decide +kernel
theorem dJ2_length_9d52b_2 : decode cJ2_length_9d52b 2 = .ok (.iconst 1, 1) := by decide +kernel
theorem dJ2_length_9d52b_3 : decode cJ2_length_9d52b 3 = .ok (.ishr, 1) := by decide +kernel
theorem dJ2_length_9d52b_4 : decode cJ2_length_9d52b 4 = .ok (.ireturn, 1) := by decide +kernel
theorem dJ2_charAt_3b067_0 : decode cJ2_charAt_3b067 0 = .ok (.iload_n 1, 1) := by decide +kernel
theorem dJ2_charAt_3b067_1 : decode cJ2_charAt_3b067 1 = .ok (.aload_n 0, 1) := by decide +kernel
theorem dJ2_charAt_3b067_2 : decode cJ2_charAt_3b067 2 = .ok (.invokestatic 67, 3) := by decide +kernel
theorem dJ2_charAt_3b067_5 : decode cJ2_charAt_3b067 5 = .ok (.aload_n 0, 1) := by decide +kernel
theorem dJ2_charAt_3b067_6 : decode cJ2_charAt_3b067 6 = .ok (.iload_n 1, 1) := by decide +kernel
theorem dJ2_charAt_3b067_7 : decode cJ2_charAt_3b067 7 = .ok (.invokestatic 71, 3) := by decide +kernel
theorem dJ2_charAt_3b067_10 : decode cJ2_charAt_3b067 10 = .ok (.ireturn, 1) := by decide +kernel
theorem dJ2_checkIndex_2214a_0 : decode cJ2_checkIndex_2214a 0 = .ok (.iload_n 0, 1) := by decide +kernel
theorem dJ2_checkIndex_2214a_1 : decode cJ2_checkIndex_2214a 1 = .ok (.aload_n 1, 1) := by decide +kernel
theorem dJ2_checkIndex_2214a_2 : decode cJ2_checkIndex_2214a 2 = .ok (.invokestatic 48, 3) := by decide +kernel
theorem dJ2_checkIndex_2214a_5 : decode cJ2_checkIndex_2214a 5 = .ok (.invokestatic 414, 3) := by decide +kernel
theorem dJ2_checkIndex_2214a_8 : decode cJ2_checkIndex_2214a 8 = .ok (.return_, 1) := by decide +kernel
theorem dJ7_fill_53178_0 : decode cJ7_fill_53178 0 = .ok (.iconst 0, 1) := by decide +kernel
theorem dJ7_fill_53178_1 : decode cJ7_fill_53178 1 = .ok (.istore_n 2, 1) := by decide +kernel
theorem dJ7_fill_53178_2 : decode cJ7_fill_53178 2 = .ok (.aload_n 0, 1) := by decide +kernel
theorem dJ7_fill_53178_3 : decode cJ7_fill_53178 3 = .ok (.arraylength, 1) := by decide +kernel
theorem dJ7_fill_53178_4 : decode cJ7_fill_53178 4 = .ok (.istore_n 3, 1) := by decide +kernel
theorem dJ7_fill_53178_5 : decode cJ7_fill_53178 5 = .ok (.iload_n 2, 1) := by decide +kernel
theorem dJ7_fill_53178_6 : decode cJ7_fill_53178 6 = .ok (.iload_n 3, 1) := by decide +kernel
theorem dJ7_fill_53178_7 : decode cJ7_fill_53178 7 = .ok (.if_icmp .ge 13, 3) := by decide +kernel
theorem dJ7_fill_53178_10 : decode cJ7_fill_53178 10 = .ok (.aload_n 0, 1) := by decide +kernel
theorem dJ7_fill_53178_11 : decode cJ7_fill_53178 11 = .ok (.iload_n 2, 1) := by decide +kernel
theorem dJ7_fill_53178_12 : decode cJ7_fill_53178 12 = .ok (.iload_n 1, 1) := by decide +kernel
theorem dJ7_fill_53178_13 : decode cJ7_fill_53178 13 = .ok (.iastore, 1) := by decide +kernel
theorem dJ7_fill_53178_14 : decode cJ7_fill_53178 14 = .ok (.iinc 2 1, 3) := by decide +kernel
theorem dJ7_fill_53178_17 : decode cJ7_fill_53178 17 = .ok (.goto (-12), 3) := by decide +kernel
theorem dJ7_fill_53178_20 : decode cJ7_fill_53178 20 = .ok (.return_, 1) := by decide +kernel
theorem dJ3_checkIndex_8e157_0 : decode cJ3_checkIndex_8e157 0 = .ok (.iload_n 0, 1) := by decide +kernel
theorem dJ3_checkIndex_8e157_1 : decode cJ3_checkIndex_8e157 1 = .ok (.ifCond .lt 8, 3) := by decide +kernel
theorem dJ3_checkIndex_8e157_4 : decode cJ3_checkIndex_8e157 4 = .ok (.iload_n 0, 1) := by decide +kernel
theorem dJ3_checkIndex_8e157_5 : decode cJ3_checkIndex_8e157 5 = .ok (.iload_n 1, 1) := by decide +kernel
theorem dJ3_checkIndex_8e157_6 : decode cJ3_checkIndex_8e157 6 = .ok (.if_icmp .lt 10, 3) := by decide +kernel
theorem dJ3_checkIndex_8e157_9 : decode cJ3_checkIndex_8e157 9 = .ok (.aload_n 2, 1) := by decide +kernel
theorem dJ3_checkIndex_8e157_10 : decode cJ3_checkIndex_8e157 10 = .ok (.iload_n 0, 1) := by decide +kernel
theorem dJ3_checkIndex_8e157_11 : decode cJ3_checkIndex_8e157 11 = .ok (.iload_n 1, 1) := by decide +kernel
theorem dJ3_checkIndex_8e157_12 : decode cJ3_checkIndex_8e157 12 = .ok (.invokestatic 95, 3) := by decide +kernel
theorem dJ3_checkIndex_8e157_15 : decode cJ3_checkIndex_8e157 15 = .ok (.athrow, 1) := by decide +kernel
theorem dJ3_checkIndex_8e157_16 : decode cJ3_checkIndex_8e157 16 = .ok (.iload_n 0, 1) := by decide +kernel
theorem dJ3_checkIndex_8e157_17 : decode cJ3_checkIndex_8e157 17 = .ok (.ireturn, 1) := by decide +kernel
theorem dL_law_0 : decode cL_law 0 = .ok (.new 7, 3) := by decide +kernel
theorem dL_law_3 : decode cL_law 3 = .ok (.dup, 1) := by decide +kernel
theorem dL_law_4 : decode cL_law 4 = .ok (.invokespecial 9, 3) := by decide +kernel
theorem dL_law_7 : decode cL_law 7 = .ok (.astore_n 1, 1) := by decide +kernel
theorem dL_law_8 : decode cL_law 8 = .ok (.new 10, 3) := by decide +kernel
theorem dL_law_11 : decode cL_law 11 = .ok (.dup, 1) := by decide +kernel
theorem dL_law_12 : decode cL_law 12 = .ok (.invokespecial 12, 3) := by decide +kernel
theorem dL_law_15 : decode cL_law 15 = .ok (.astore_n 2, 1) := by decide +kernel
theorem dL_law_16 : decode cL_law 16 = .ok (.iconst 0, 1) := by decide +kernel
theorem dL_law_17 : decode cL_law 17 = .ok (.istore_n 3, 1) := by decide +kernel
theorem dL_law_18 : decode cL_law 18 = .ok (.iload_n 3, 1) := by decide +kernel
theorem dL_law_19 : decode cL_law 19 = .ok (.aload_n 0, 1) := by decide +kernel
theorem dL_law_20 : decode cL_law 20 = .ok (.arraylength, 1) := by decide +kernel
theorem dL_law_21 : decode cL_law 21 = .ok (.bipush 6, 2) := by decide +kernel
theorem dL_law_23 : decode cL_law 23 = .ok (.isub, 1) := by decide +kernel
theorem dL_law_24 : decode cL_law 24 = .ok (.if_icmp .gt 938, 3) := by decide +kernel
theorem dL_law_27 : decode cL_law 27 = .ok (.aload_n 0, 1) := by decide +kernel
theorem dL_law_28 : decode cL_law 28 = .ok (.iload_n 3, 1) := by decide +kernel
theorem dL_law_29 : decode cL_law 29 = .ok (.iaload, 1) := by decide +kernel
theorem dL_law_30 : decode cL_law 30 = .ok (.bipush 31, 2) := by decide +kernel
theorem dL_law_32 : decode cL_law 32 = .ok (.iand, 1) := by decide +kernel
theorem dL_law_33 : decode cL_law 33 = .ok (.tableswitch 923 0 23 #[111, 154, 197, 230, 283, 326, 369, 432, 455, 468, 491, 514, 537, 590, 603, 616, 629, 652, 675, 738, 761, 814, 867, 900], 111) := by decide +kernel
theorem dL_law_144 : decode cL_law 144 = .ok (.aload_n 1, 1) := by decide +kernel
theorem dL_law_145 : decode cL_law 145 = .ok (.aload_n 0, 1) := by decide +kernel
theorem dL_law_146 : decode cL_law 146 = .ok (.iload_n 3, 1) := by decide +kernel
theorem dL_law_147 : decode cL_law 147 = .ok (.iconst 1, 1) := by decide +kernel
theorem dL_law_148 : decode cL_law 148 = .ok (.iadd, 1) := by decide +kernel
theorem dL_law_149 : decode cL_law 149 = .ok (.iaload, 1) := by decide +kernel
theorem dL_law_150 : decode cL_law 150 = .ok (.aload_n 0, 1) := by decide +kernel
theorem dL_law_151 : decode cL_law 151 = .ok (.iload_n 3, 1) := by decide +kernel
theorem dL_law_152 : decode cL_law 152 = .ok (.iconst 2, 1) := by decide +kernel
theorem dL_law_153 : decode cL_law 153 = .ok (.iadd, 1) := by decide +kernel
theorem dL_law_154 : decode cL_law 154 = .ok (.iaload, 1) := by decide +kernel
theorem dL_law_155 : decode cL_law 155 = .ok (.aload_n 0, 1) := by decide +kernel
theorem dL_law_156 : decode cL_law 156 = .ok (.iload_n 3, 1) := by decide +kernel
theorem dL_law_157 : decode cL_law 157 = .ok (.iconst 3, 1) := by decide +kernel
theorem dL_law_158 : decode cL_law 158 = .ok (.iadd, 1) := by decide +kernel
theorem dL_law_159 : decode cL_law 159 = .ok (.iaload, 1) := by decide +kernel
theorem dL_law_160 : decode cL_law 160 = .ok (.invokevirtual 13, 3) := by decide +kernel
theorem dL_law_163 : decode cL_law 163 = .ok (.aload_n 2, 1) := by decide +kernel
theorem dL_law_164 : decode cL_law 164 = .ok (.aload_n 0, 1) := by decide +kernel
theorem dL_law_165 : decode cL_law 165 = .ok (.iload_n 3, 1) := by decide +kernel
theorem dL_law_166 : decode cL_law 166 = .ok (.iconst 1, 1) := by decide +kernel
theorem dL_law_167 : decode cL_law 167 = .ok (.iadd, 1) := by decide +kernel
theorem dL_law_168 : decode cL_law 168 = .ok (.iaload, 1) := by decide +kernel
theorem dL_law_169 : decode cL_law 169 = .ok (.aload_n 0, 1) := by decide +kernel
theorem dL_law_170 : decode cL_law 170 = .ok (.iload_n 3, 1) := by decide +kernel
theorem dL_law_171 : decode cL_law 171 = .ok (.iconst 2, 1) := by decide +kernel
theorem dL_law_172 : decode cL_law 172 = .ok (.iadd, 1) := by decide +kernel
theorem dL_law_173 : decode cL_law 173 = .ok (.iaload, 1) := by decide +kernel
theorem dL_law_174 : decode cL_law 174 = .ok (.aload_n 0, 1) := by decide +kernel
theorem dL_law_175 : decode cL_law 175 = .ok (.iload_n 3, 1) := by decide +kernel
theorem dL_law_176 : decode cL_law 176 = .ok (.iconst 3, 1) := by decide +kernel
theorem dL_law_177 : decode cL_law 177 = .ok (.iadd, 1) := by decide +kernel
theorem dL_law_178 : decode cL_law 178 = .ok (.iaload, 1) := by decide +kernel
theorem dL_law_179 : decode cL_law 179 = .ok (.invokevirtual 17, 3) := by decide +kernel
theorem dL_law_182 : decode cL_law 182 = .ok (.if_icmp .eq 774, 3) := by decide +kernel
theorem dL_law_185 : decode cL_law 185 = .ok (.iconst 0, 1) := by decide +kernel
theorem dL_law_186 : decode cL_law 186 = .ok (.ireturn, 1) := by decide +kernel
theorem dL_law_187 : decode cL_law 187 = .ok (.aload_n 1, 1) := by decide +kernel
theorem dL_law_188 : decode cL_law 188 = .ok (.aload_n 0, 1) := by decide +kernel
theorem dL_law_189 : decode cL_law 189 = .ok (.iload_n 3, 1) := by decide +kernel
theorem dL_law_190 : decode cL_law 190 = .ok (.iconst 1, 1) := by decide +kernel
theorem dL_law_191 : decode cL_law 191 = .ok (.iadd, 1) := by decide +kernel
theorem dL_law_192 : decode cL_law 192 = .ok (.iaload, 1) := by decide +kernel
theorem dL_law_193 : decode cL_law 193 = .ok (.aload_n 0, 1) := by decide +kernel
theorem dL_law_194 : decode cL_law 194 = .ok (.iload_n 3, 1) := by decide +kernel
theorem dL_law_195 : decode cL_law 195 = .ok (.iconst 2, 1) := by decide +kernel
theorem dL_law_196 : decode cL_law 196 = .ok (.iadd, 1) := by decide +kernel
theorem dL_law_197 : decode cL_law 197 = .ok (.iaload, 1) := by decide +kernel
theorem dL_law_198 : decode cL_law 198 = .ok (.aload_n 0, 1) := by decide +kernel
theorem dL_law_199 : decode cL_law 199 = .ok (.iload_n 3, 1) := by decide +kernel
theorem dL_law_200 : decode cL_law 200 = .ok (.iconst 3, 1) := by decide +kernel
theorem dL_law_201 : decode cL_law 201 = .ok (.iadd, 1) := by decide +kernel
theorem dL_law_202 : decode cL_law 202 = .ok (.iaload, 1) := by decide +kernel
theorem dL_law_203 : decode cL_law 203 = .ok (.invokevirtual 18, 3) := by decide +kernel
theorem dL_law_206 : decode cL_law 206 = .ok (.aload_n 2, 1) := by decide +kernel
theorem dL_law_207 : decode cL_law 207 = .ok (.aload_n 0, 1) := by decide +kernel
theorem dL_law_208 : decode cL_law 208 = .ok (.iload_n 3, 1) := by decide +kernel
theorem dL_law_209 : decode cL_law 209 = .ok (.iconst 1, 1) := by decide +kernel
theorem dL_law_210 : decode cL_law 210 = .ok (.iadd, 1) := by decide +kernel
theorem dL_law_211 : decode cL_law 211 = .ok (.iaload, 1) := by decide +kernel
theorem dL_law_212 : decode cL_law 212 = .ok (.aload_n 0, 1) := by decide +kernel
theorem dL_law_213 : decode cL_law 213 = .ok (.iload_n 3, 1) := by decide +kernel
theorem dL_law_214 : decode cL_law 214 = .ok (.iconst 2, 1) := by decide +kernel
theorem dL_law_215 : decode cL_law 215 = .ok (.iadd, 1) := by decide +kernel
theorem dL_law_216 : decode cL_law 216 = .ok (.iaload, 1) := by decide +kernel
theorem dL_law_217 : decode cL_law 217 = .ok (.aload_n 0, 1) := by decide +kernel
theorem dL_law_218 : decode cL_law 218 = .ok (.iload_n 3, 1) := by decide +kernel
theorem dL_law_219 : decode cL_law 219 = .ok (.iconst 3, 1) := by decide +kernel
theorem dL_law_220 : decode cL_law 220 = .ok (.iadd, 1) := by decide +kernel
theorem dL_law_221 : decode cL_law 221 = .ok (.iaload, 1) := by decide +kernel
theorem dL_law_222 : decode cL_law 222 = .ok (.invokevirtual 22, 3) := by decide +kernel
theorem dL_law_225 : decode cL_law 225 = .ok (.if_icmp .eq 731, 3) := by decide +kernel
theorem dL_law_228 : decode cL_law 228 = .ok (.iconst 0, 1) := by decide +kernel
theorem dL_law_229 : decode cL_law 229 = .ok (.ireturn, 1) := by decide +kernel
theorem dL_law_230 : decode cL_law 230 = .ok (.aload_n 1, 1) := by decide +kernel
theorem dL_law_231 : decode cL_law 231 = .ok (.aload_n 0, 1) := by decide +kernel
theorem dL_law_232 : decode cL_law 232 = .ok (.iload_n 3, 1) := by decide +kernel
theorem dL_law_233 : decode cL_law 233 = .ok (.iconst 1, 1) := by decide +kernel
theorem dL_law_234 : decode cL_law 234 = .ok (.iadd, 1) := by decide +kernel
theorem dL_law_235 : decode cL_law 235 = .ok (.iaload, 1) := by decide +kernel
theorem dL_law_236 : decode cL_law 236 = .ok (.aload_n 0, 1) := by decide +kernel
theorem dL_law_237 : decode cL_law 237 = .ok (.iload_n 3, 1) := by decide +kernel
theorem dL_law_238 : decode cL_law 238 = .ok (.iconst 2, 1) := by decide +kernel
theorem dL_law_239 : decode cL_law 239 = .ok (.iadd, 1) := by decide +kernel
theorem dL_law_240 : decode cL_law 240 = .ok (.iaload, 1) := by decide +kernel
theorem dL_law_241 : decode cL_law 241 = .ok (.invokevirtual 23, 3) := by decide +kernel
theorem dL_law_244 : decode cL_law 244 = .ok (.aload_n 2, 1) := by decide +kernel
theorem dL_law_245 : decode cL_law 245 = .ok (.aload_n 0, 1) := by decide +kernel
theorem dL_law_246 : decode cL_law 246 = .ok (.iload_n 3, 1) := by decide +kernel
theorem dL_law_247 : decode cL_law 247 = .ok (.iconst 1, 1) := by decide +kernel
theorem dL_law_248 : decode cL_law 248 = .ok (.iadd, 1) := by decide +kernel
theorem dL_law_249 : decode cL_law 249 = .ok (.iaload, 1) := by decide +kernel
theorem dL_law_250 : decode cL_law 250 = .ok (.aload_n 0, 1) := by decide +kernel
theorem dL_law_251 : decode cL_law 251 = .ok (.iload_n 3, 1) := by decide +kernel
theorem dL_law_252 : decode cL_law 252 = .ok (.iconst 2, 1) := by decide +kernel
theorem dL_law_253 : decode cL_law 253 = .ok (.iadd, 1) := by decide +kernel
theorem dL_law_254 : decode cL_law 254 = .ok (.iaload, 1) := by decide +kernel
theorem dL_law_255 : decode cL_law 255 = .ok (.invokevirtual 27, 3) := by decide +kernel
theorem dL_law_258 : decode cL_law 258 = .ok (.if_icmp .eq 698, 3) := by decide +kernel
theorem dL_law_261 : decode cL_law 261 = .ok (.iconst 0, 1) := by decide +kernel
theorem dL_law_262 : decode cL_law 262 = .ok (.ireturn, 1) := by decide +kernel
theorem dL_law_263 : decode cL_law 263 = .ok (.aload_n 1, 1) := by decide +kernel
theorem dL_law_264 : decode cL_law 264 = .ok (.aload_n 0, 1) := by decide +kernel
theorem dL_law_265 : decode cL_law 265 = .ok (.iload_n 3, 1) := by decide +kernel
theorem dL_law_266 : decode cL_law 266 = .ok (.iconst 1, 1) := by decide +kernel
theorem dL_law_267 : decode cL_law 267 = .ok (.iadd, 1) := by decide +kernel
theorem dL_law_268 : decode cL_law 268 = .ok (.iaload, 1) := by decide +kernel
theorem dL_law_269 : decode cL_law 269 = .ok (.aload_n 0, 1) := by decide +kernel
theorem dL_law_270 : decode cL_law 270 = .ok (.iload_n 3, 1) := by decide +kernel
theorem dL_law_271 : decode cL_law 271 = .ok (.iconst 2, 1) := by decide +kernel
theorem dL_law_272 : decode cL_law 272 = .ok (.iadd, 1) := by decide +kernel
theorem dL_law_273 : decode cL_law 273 = .ok (.iaload, 1) := by decide +kernel
theorem dL_law_274 : decode cL_law 274 = .ok (.aload_n 0, 1) := by decide +kernel
theorem dL_law_275 : decode cL_law 275 = .ok (.iload_n 3, 1) := by decide +kernel
theorem dL_law_276 : decode cL_law 276 = .ok (.iconst 3, 1) := by decide +kernel
theorem dL_law_277 : decode cL_law 277 = .ok (.iadd, 1) := by decide +kernel
theorem dL_law_278 : decode cL_law 278 = .ok (.iaload, 1) := by decide +kernel
theorem dL_law_279 : decode cL_law 279 = .ok (.aload_n 0, 1) := by decide +kernel
theorem dL_law_280 : decode cL_law 280 = .ok (.iload_n 3, 1) := by decide +kernel
theorem dL_law_281 : decode cL_law 281 = .ok (.iconst 4, 1) := by decide +kernel
theorem dL_law_282 : decode cL_law 282 = .ok (.iadd, 1) := by decide +kernel
theorem dL_law_283 : decode cL_law 283 = .ok (.iaload, 1) := by decide +kernel
theorem dL_law_284 : decode cL_law 284 = .ok (.invokevirtual 28, 3) := by decide +kernel
theorem dL_law_287 : decode cL_law 287 = .ok (.aload_n 2, 1) := by decide +kernel
theorem dL_law_288 : decode cL_law 288 = .ok (.aload_n 0, 1) := by decide +kernel
theorem dL_law_289 : decode cL_law 289 = .ok (.iload_n 3, 1) := by decide +kernel
theorem dL_law_290 : decode cL_law 290 = .ok (.iconst 1, 1) := by decide +kernel
theorem dL_law_291 : decode cL_law 291 = .ok (.iadd, 1) := by decide +kernel
theorem dL_law_292 : decode cL_law 292 = .ok (.iaload, 1) := by decide +kernel
theorem dL_law_293 : decode cL_law 293 = .ok (.aload_n 0, 1) := by decide +kernel
theorem dL_law_294 : decode cL_law 294 = .ok (.iload_n 3, 1) := by decide +kernel
theorem dL_law_295 : decode cL_law 295 = .ok (.iconst 2, 1) := by decide +kernel
theorem dL_law_296 : decode cL_law 296 = .ok (.iadd, 1) := by decide +kernel
theorem dL_law_297 : decode cL_law 297 = .ok (.iaload, 1) := by decide +kernel
theorem dL_law_298 : decode cL_law 298 = .ok (.aload_n 0, 1) := by decide +kernel
theorem dL_law_299 : decode cL_law 299 = .ok (.iload_n 3, 1) := by decide +kernel
theorem dL_law_300 : decode cL_law 300 = .ok (.iconst 3, 1) := by decide +kernel
theorem dL_law_301 : decode cL_law 301 = .ok (.iadd, 1) := by decide +kernel
theorem dL_law_302 : decode cL_law 302 = .ok (.iaload, 1) := by decide +kernel
theorem dL_law_303 : decode cL_law 303 = .ok (.aload_n 0, 1) := by decide +kernel
theorem dL_law_304 : decode cL_law 304 = .ok (.iload_n 3, 1) := by decide +kernel
theorem dL_law_305 : decode cL_law 305 = .ok (.iconst 4, 1) := by decide +kernel
theorem dL_law_306 : decode cL_law 306 = .ok (.iadd, 1) := by decide +kernel
theorem dL_law_307 : decode cL_law 307 = .ok (.iaload, 1) := by decide +kernel
theorem dL_law_308 : decode cL_law 308 = .ok (.invokevirtual 32, 3) := by decide +kernel
theorem dL_law_311 : decode cL_law 311 = .ok (.if_icmp .eq 645, 3) := by decide +kernel
theorem dL_law_314 : decode cL_law 314 = .ok (.iconst 0, 1) := by decide +kernel
theorem dL_law_315 : decode cL_law 315 = .ok (.ireturn, 1) := by decide +kernel
theorem dL_law_316 : decode cL_law 316 = .ok (.aload_n 1, 1) := by decide +kernel
theorem dL_law_317 : decode cL_law 317 = .ok (.aload_n 0, 1) := by decide +kernel
theorem dL_law_318 : decode cL_law 318 = .ok (.iload_n 3, 1) := by decide +kernel
theorem dL_law_319 : decode cL_law 319 = .ok (.iconst 1, 1) := by decide +kernel
theorem dL_law_320 : decode cL_law 320 = .ok (.iadd, 1) := by decide +kernel
theorem dL_law_321 : decode cL_law 321 = .ok (.iaload, 1) := by decide +kernel
theorem dL_law_322 : decode cL_law 322 = .ok (.aload_n 0, 1) := by decide +kernel
theorem dL_law_323 : decode cL_law 323 = .ok (.iload_n 3, 1) := by decide +kernel
theorem dL_law_324 : decode cL_law 324 = .ok (.iconst 2, 1) := by decide +kernel
theorem dL_law_325 : decode cL_law 325 = .ok (.iadd, 1) := by decide +kernel
theorem dL_law_326 : decode cL_law 326 = .ok (.iaload, 1) := by decide +kernel
theorem dL_law_327 : decode cL_law 327 = .ok (.aload_n 0, 1) := by decide +kernel
theorem dL_law_328 : decode cL_law 328 = .ok (.iload_n 3, 1) := by decide +kernel
theorem dL_law_329 : decode cL_law 329 = .ok (.iconst 3, 1) := by decide +kernel
theorem dL_law_330 : decode cL_law 330 = .ok (.iadd, 1) := by decide +kernel
theorem dL_law_331 : decode cL_law 331 = .ok (.iaload, 1) := by decide +kernel
theorem dL_law_332 : decode cL_law 332 = .ok (.invokevirtual 33, 3) := by decide +kernel
theorem dL_law_335 : decode cL_law 335 = .ok (.aload_n 2, 1) := by decide +kernel
theorem dL_law_336 : decode cL_law 336 = .ok (.aload_n 0, 1) := by decide +kernel
theorem dL_law_337 : decode cL_law 337 = .ok (.iload_n 3, 1) := by decide +kernel
theorem dL_law_338 : decode cL_law 338 = .ok (.iconst 1, 1) := by decide +kernel
theorem dL_law_339 : decode cL_law 339 = .ok (.iadd, 1) := by decide +kernel
theorem dL_law_340 : decode cL_law 340 = .ok (.iaload, 1) := by decide +kernel
theorem dL_law_341 : decode cL_law 341 = .ok (.aload_n 0, 1) := by decide +kernel
theorem dL_law_342 : decode cL_law 342 = .ok (.iload_n 3, 1) := by decide +kernel
theorem dL_law_343 : decode cL_law 343 = .ok (.iconst 2, 1) := by decide +kernel
theorem dL_law_344 : decode cL_law 344 = .ok (.iadd, 1) := by decide +kernel
theorem dL_law_345 : decode cL_law 345 = .ok (.iaload, 1) := by decide +kernel
theorem dL_law_346 : decode cL_law 346 = .ok (.aload_n 0, 1) := by decide +kernel
theorem dL_law_347 : decode cL_law 347 = .ok (.iload_n 3, 1) := by decide +kernel
theorem dL_law_348 : decode cL_law 348 = .ok (.iconst 3, 1) := by decide +kernel
theorem dL_law_349 : decode cL_law 349 = .ok (.iadd, 1) := by decide +kernel
theorem dL_law_350 : decode cL_law 350 = .ok (.iaload, 1) := by decide +kernel
theorem dL_law_351 : decode cL_law 351 = .ok (.invokevirtual 36, 3) := by decide +kernel
theorem dL_law_354 : decode cL_law 354 = .ok (.if_icmp .eq 602, 3) := by decide +kernel
theorem dL_law_357 : decode cL_law 357 = .ok (.iconst 0, 1) := by decide +kernel
theorem dL_law_358 : decode cL_law 358 = .ok (.ireturn, 1) := by decide +kernel
theorem dL_law_359 : decode cL_law 359 = .ok (.aload_n 1, 1) := by decide +kernel
theorem dL_law_360 : decode cL_law 360 = .ok (.aload_n 0, 1) := by decide +kernel
theorem dL_law_361 : decode cL_law 361 = .ok (.iload_n 3, 1) := by decide +kernel
theorem dL_law_362 : decode cL_law 362 = .ok (.iconst 1, 1) := by decide +kernel
theorem dL_law_363 : decode cL_law 363 = .ok (.iadd, 1) := by decide +kernel
theorem dL_law_364 : decode cL_law 364 = .ok (.iaload, 1) := by decide +kernel
theorem dL_law_365 : decode cL_law 365 = .ok (.aload_n 0, 1) := by decide +kernel
theorem dL_law_366 : decode cL_law 366 = .ok (.iload_n 3, 1) := by decide +kernel
theorem dL_law_367 : decode cL_law 367 = .ok (.iconst 2, 1) := by decide +kernel
theorem dL_law_368 : decode cL_law 368 = .ok (.iadd, 1) := by decide +kernel
theorem dL_law_369 : decode cL_law 369 = .ok (.iaload, 1) := by decide +kernel
theorem dL_law_370 : decode cL_law 370 = .ok (.aload_n 0, 1) := by decide +kernel
theorem dL_law_371 : decode cL_law 371 = .ok (.iload_n 3, 1) := by decide +kernel
theorem dL_law_372 : decode cL_law 372 = .ok (.iconst 3, 1) := by decide +kernel
theorem dL_law_373 : decode cL_law 373 = .ok (.iadd, 1) := by decide +kernel
theorem dL_law_374 : decode cL_law 374 = .ok (.iaload, 1) := by decide +kernel
theorem dL_law_375 : decode cL_law 375 = .ok (.invokevirtual 37, 3) := by decide +kernel
theorem dL_law_378 : decode cL_law 378 = .ok (.aload_n 2, 1) := by decide +kernel
theorem dL_law_379 : decode cL_law 379 = .ok (.aload_n 0, 1) := by decide +kernel
theorem dL_law_380 : decode cL_law 380 = .ok (.iload_n 3, 1) := by decide +kernel
theorem dL_law_381 : decode cL_law 381 = .ok (.iconst 1, 1) := by decide +kernel
theorem dL_law_382 : decode cL_law 382 = .ok (.iadd, 1) := by decide +kernel
theorem dL_law_383 : decode cL_law 383 = .ok (.iaload, 1) := by decide +kernel
theorem dL_law_384 : decode cL_law 384 = .ok (.aload_n 0, 1) := by decide +kernel
theorem dL_law_385 : decode cL_law 385 = .ok (.iload_n 3, 1) := by decide +kernel
theorem dL_law_386 : decode cL_law 386 = .ok (.iconst 2, 1) := by decide +kernel
theorem dL_law_387 : decode cL_law 387 = .ok (.iadd, 1) := by decide +kernel
theorem dL_law_388 : decode cL_law 388 = .ok (.iaload, 1) := by decide +kernel
theorem dL_law_389 : decode cL_law 389 = .ok (.aload_n 0, 1) := by decide +kernel
theorem dL_law_390 : decode cL_law 390 = .ok (.iload_n 3, 1) := by decide +kernel
theorem dL_law_391 : decode cL_law 391 = .ok (.iconst 3, 1) := by decide +kernel
theorem dL_law_392 : decode cL_law 392 = .ok (.iadd, 1) := by decide +kernel
theorem dL_law_393 : decode cL_law 393 = .ok (.iaload, 1) := by decide +kernel
theorem dL_law_394 : decode cL_law 394 = .ok (.invokevirtual 40, 3) := by decide +kernel
theorem dL_law_397 : decode cL_law 397 = .ok (.if_icmp .eq 559, 3) := by decide +kernel
theorem dL_law_400 : decode cL_law 400 = .ok (.iconst 0, 1) := by decide +kernel
theorem dL_law_401 : decode cL_law 401 = .ok (.ireturn, 1) := by decide +kernel
theorem dL_law_402 : decode cL_law 402 = .ok (.aload_n 1, 1) := by decide +kernel
theorem dL_law_403 : decode cL_law 403 = .ok (.aload_n 0, 1) := by decide +kernel
theorem dL_law_404 : decode cL_law 404 = .ok (.iload_n 3, 1) := by decide +kernel
theorem dL_law_405 : decode cL_law 405 = .ok (.iconst 1, 1) := by decide +kernel
theorem dL_law_406 : decode cL_law 406 = .ok (.iadd, 1) := by decide +kernel
theorem dL_law_407 : decode cL_law 407 = .ok (.iaload, 1) := by decide +kernel
end
section
theorem dL_law_408 : decode cL_law 408 = .ok (.aload_n 0, 1) := by decide +kernel
theorem dL_law_409 : decode cL_law 409 = .ok (.iload_n 3, 1) := by decide +kernel
theorem dL_law_410 : decode cL_law 410 = .ok (.iconst 2, 1) := by decide +kernel
theorem dL_law_411 : decode cL_law 411 = .ok (.iadd, 1) := by decide +kernel
theorem dL_law_412 : decode cL_law 412 = .ok (.iaload, 1) := by decide +kernel
theorem dL_law_413 : decode cL_law 413 = .ok (.aload_n 0, 1) := by decide +kernel
theorem dL_law_414 : decode cL_law 414 = .ok (.iload_n 3, 1) := by decide +kernel
theorem dL_law_415 : decode cL_law 415 = .ok (.iconst 3, 1) := by decide +kernel
theorem dL_law_416 : decode cL_law 416 = .ok (.iadd, 1) := by decide +kernel
theorem dL_law_417 : decode cL_law 417 = .ok (.iaload, 1) := by decide +kernel
theorem dL_law_418 : decode cL_law 418 = .ok (.aload_n 0, 1) := by decide +kernel
theorem dL_law_419 : decode cL_law 419 = .ok (.iload_n 3, 1) := by decide +kernel
theorem dL_law_420 : decode cL_law 420 = .ok (.iconst 4, 1) := by decide +kernel
theorem dL_law_421 : decode cL_law 421 = .ok (.iadd, 1) := by decide +kernel
theorem dL_law_422 : decode cL_law 422 = .ok (.iaload, 1) := by decide +kernel
theorem dL_law_423 : decode cL_law 423 = .ok (.aload_n 0, 1) := by decide +kernel
theorem dL_law_424 : decode cL_law 424 = .ok (.iload_n 3, 1) := by decide +kernel
theorem dL_law_425 : decode cL_law 425 = .ok (.iconst 5, 1) := by decide +kernel
theorem dL_law_426 : decode cL_law 426 = .ok (.iadd, 1) := by decide +kernel
theorem dL_law_427 : decode cL_law 427 = .ok (.iaload, 1) := by decide +kernel
theorem dL_law_428 : decode cL_law 428 = .ok (.invokevirtual 41, 3) := by decide +kernel
theorem dL_law_431 : decode cL_law 431 = .ok (.aload_n 2, 1) := by decide +kernel
theorem dL_law_432 : decode cL_law 432 = .ok (.aload_n 0, 1) := by decide +kernel
theorem dL_law_433 : decode cL_law 433 = .ok (.iload_n 3, 1) := by decide +kernel
theorem dL_law_434 : decode cL_law 434 = .ok (.iconst 1, 1) := by decide +kernel
theorem dL_law_435 : decode cL_law 435 = .ok (.iadd, 1) := by decide +kernel
theorem dL_law_436 : decode cL_law 436 = .ok (.iaload, 1) := by decide +kernel
theorem dL_law_437 : decode cL_law 437 = .ok (.aload_n 0, 1) := by decide +kernel
theorem dL_law_438 : decode cL_law 438 = .ok (.iload_n 3, 1) := by decide +kernel
theorem dL_law_439 : decode cL_law 439 = .ok (.iconst 2, 1) := by decide +kernel
theorem dL_law_440 : decode cL_law 440 = .ok (.iadd, 1) := by decide +kernel
theorem dL_law_441 : decode cL_law 441 = .ok (.iaload, 1) := by decide +kernel
theorem dL_law_442 : decode cL_law 442 = .ok (.aload_n 0, 1) := by decide +kernel
theorem dL_law_443 : decode cL_law 443 = .ok (.iload_n 3, 1) := by decide +kernel
theorem dL_law_444 : decode cL_law 444 = .ok (.iconst 3, 1) := by decide +kernel
theorem dL_law_445 : decode cL_law 445 = .ok (.iadd, 1) := by decide +kernel
theorem dL_law_446 : decode cL_law 446 = .ok (.iaload, 1) := by decide +kernel
theorem dL_law_447 : decode cL_law 447 = .ok (.aload_n 0, 1) := by decide +kernel
theorem dL_law_448 : decode cL_law 448 = .ok (.iload_n 3, 1) := by decide +kernel
theorem dL_law_449 : decode cL_law 449 = .ok (.iconst 4, 1) := by decide +kernel
theorem dL_law_450 : decode cL_law 450 = .ok (.iadd, 1) := by decide +kernel
theorem dL_law_451 : decode cL_law 451 = .ok (.iaload, 1) := by decide +kernel
theorem dL_law_452 : decode cL_law 452 = .ok (.aload_n 0, 1) := by decide +kernel
theorem dL_law_453 : decode cL_law 453 = .ok (.iload_n 3, 1) := by decide +kernel
theorem dL_law_454 : decode cL_law 454 = .ok (.iconst 5, 1) := by decide +kernel
theorem dL_law_455 : decode cL_law 455 = .ok (.iadd, 1) := by decide +kernel
theorem dL_law_456 : decode cL_law 456 = .ok (.iaload, 1) := by decide +kernel
theorem dL_law_457 : decode cL_law 457 = .ok (.invokevirtual 45, 3) := by decide +kernel
theorem dL_law_460 : decode cL_law 460 = .ok (.if_icmp .eq 496, 3) := by decide +kernel
theorem dL_law_463 : decode cL_law 463 = .ok (.iconst 0, 1) := by decide +kernel
theorem dL_law_464 : decode cL_law 464 = .ok (.ireturn, 1) := by decide +kernel
theorem dL_law_465 : decode cL_law 465 = .ok (.aload_n 1, 1) := by decide +kernel
theorem dL_law_466 : decode cL_law 466 = .ok (.aload_n 0, 1) := by decide +kernel
theorem dL_law_467 : decode cL_law 467 = .ok (.iload_n 3, 1) := by decide +kernel
theorem dL_law_468 : decode cL_law 468 = .ok (.iconst 1, 1) := by decide +kernel
theorem dL_law_469 : decode cL_law 469 = .ok (.iadd, 1) := by decide +kernel
theorem dL_law_470 : decode cL_law 470 = .ok (.iaload, 1) := by decide +kernel
theorem dL_law_471 : decode cL_law 471 = .ok (.invokevirtual 46, 3) := by decide +kernel
theorem dL_law_474 : decode cL_law 474 = .ok (.aload_n 2, 1) := by decide +kernel
theorem dL_law_475 : decode cL_law 475 = .ok (.aload_n 0, 1) := by decide +kernel
theorem dL_law_476 : decode cL_law 476 = .ok (.iload_n 3, 1) := by decide +kernel
theorem dL_law_477 : decode cL_law 477 = .ok (.iconst 1, 1) := by decide +kernel
theorem dL_law_478 : decode cL_law 478 = .ok (.iadd, 1) := by decide +kernel
theorem dL_law_479 : decode cL_law 479 = .ok (.iaload, 1) := by decide +kernel
theorem dL_law_480 : decode cL_law 480 = .ok (.invokevirtual 50, 3) := by decide +kernel
theorem dL_law_483 : decode cL_law 483 = .ok (.if_icmp .eq 473, 3) := by decide +kernel
theorem dL_law_486 : decode cL_law 486 = .ok (.iconst 0, 1) := by decide +kernel
theorem dL_law_487 : decode cL_law 487 = .ok (.ireturn, 1) := by decide +kernel
theorem dL_law_488 : decode cL_law 488 = .ok (.aload_n 1, 1) := by decide +kernel
theorem dL_law_489 : decode cL_law 489 = .ok (.invokevirtual 51, 3) := by decide +kernel
theorem dL_law_492 : decode cL_law 492 = .ok (.aload_n 2, 1) := by decide +kernel
theorem dL_law_493 : decode cL_law 493 = .ok (.invokevirtual 55, 3) := by decide +kernel
theorem dL_law_496 : decode cL_law 496 = .ok (.if_icmp .eq 460, 3) := by decide +kernel
theorem dL_law_499 : decode cL_law 499 = .ok (.iconst 0, 1) := by decide +kernel
theorem dL_law_500 : decode cL_law 500 = .ok (.ireturn, 1) := by decide +kernel
theorem dL_law_501 : decode cL_law 501 = .ok (.aload_n 1, 1) := by decide +kernel
theorem dL_law_502 : decode cL_law 502 = .ok (.aload_n 0, 1) := by decide +kernel
theorem dL_law_503 : decode cL_law 503 = .ok (.iload_n 3, 1) := by decide +kernel
theorem dL_law_504 : decode cL_law 504 = .ok (.iconst 1, 1) := by decide +kernel
theorem dL_law_505 : decode cL_law 505 = .ok (.iadd, 1) := by decide +kernel
theorem dL_law_506 : decode cL_law 506 = .ok (.iaload, 1) := by decide +kernel
theorem dL_law_507 : decode cL_law 507 = .ok (.invokevirtual 56, 3) := by decide +kernel
theorem dL_law_510 : decode cL_law 510 = .ok (.aload_n 2, 1) := by decide +kernel
theorem dL_law_511 : decode cL_law 511 = .ok (.aload_n 0, 1) := by decide +kernel
theorem dL_law_512 : decode cL_law 512 = .ok (.iload_n 3, 1) := by decide +kernel
theorem dL_law_513 : decode cL_law 513 = .ok (.iconst 1, 1) := by decide +kernel
theorem dL_law_514 : decode cL_law 514 = .ok (.iadd, 1) := by decide +kernel
theorem dL_law_515 : decode cL_law 515 = .ok (.iaload, 1) := by decide +kernel
theorem dL_law_516 : decode cL_law 516 = .ok (.invokevirtual 59, 3) := by decide +kernel
theorem dL_law_519 : decode cL_law 519 = .ok (.if_icmp .eq 437, 3) := by decide +kernel
theorem dL_law_522 : decode cL_law 522 = .ok (.iconst 0, 1) := by decide +kernel
theorem dL_law_523 : decode cL_law 523 = .ok (.ireturn, 1) := by decide +kernel
theorem dL_law_524 : decode cL_law 524 = .ok (.aload_n 1, 1) := by decide +kernel
theorem dL_law_525 : decode cL_law 525 = .ok (.aload_n 0, 1) := by decide +kernel
theorem dL_law_526 : decode cL_law 526 = .ok (.iload_n 3, 1) := by decide +kernel
theorem dL_law_527 : decode cL_law 527 = .ok (.iconst 1, 1) := by decide +kernel
theorem dL_law_528 : decode cL_law 528 = .ok (.iadd, 1) := by decide +kernel
theorem dL_law_529 : decode cL_law 529 = .ok (.iaload, 1) := by decide +kernel
theorem dL_law_530 : decode cL_law 530 = .ok (.invokevirtual 60, 3) := by decide +kernel
theorem dL_law_533 : decode cL_law 533 = .ok (.aload_n 2, 1) := by decide +kernel
theorem dL_law_534 : decode cL_law 534 = .ok (.aload_n 0, 1) := by decide +kernel
theorem dL_law_535 : decode cL_law 535 = .ok (.iload_n 3, 1) := by decide +kernel
theorem dL_law_536 : decode cL_law 536 = .ok (.iconst 1, 1) := by decide +kernel
theorem dL_law_537 : decode cL_law 537 = .ok (.iadd, 1) := by decide +kernel
theorem dL_law_538 : decode cL_law 538 = .ok (.iaload, 1) := by decide +kernel
theorem dL_law_539 : decode cL_law 539 = .ok (.invokevirtual 63, 3) := by decide +kernel
theorem dL_law_542 : decode cL_law 542 = .ok (.if_icmp .eq 414, 3) := by decide +kernel
theorem dL_law_545 : decode cL_law 545 = .ok (.iconst 0, 1) := by decide +kernel
theorem dL_law_546 : decode cL_law 546 = .ok (.ireturn, 1) := by decide +kernel
theorem dL_law_547 : decode cL_law 547 = .ok (.aload_n 1, 1) := by decide +kernel
theorem dL_law_548 : decode cL_law 548 = .ok (.aload_n 0, 1) := by decide +kernel
theorem dL_law_549 : decode cL_law 549 = .ok (.iload_n 3, 1) := by decide +kernel
theorem dL_law_550 : decode cL_law 550 = .ok (.iconst 1, 1) := by decide +kernel
theorem dL_law_551 : decode cL_law 551 = .ok (.iadd, 1) := by decide +kernel
theorem dL_law_552 : decode cL_law 552 = .ok (.iaload, 1) := by decide +kernel
theorem dL_law_553 : decode cL_law 553 = .ok (.invokevirtual 64, 3) := by decide +kernel
theorem dL_law_556 : decode cL_law 556 = .ok (.aload_n 2, 1) := by decide +kernel
theorem dL_law_557 : decode cL_law 557 = .ok (.aload_n 0, 1) := by decide +kernel
theorem dL_law_558 : decode cL_law 558 = .ok (.iload_n 3, 1) := by decide +kernel
theorem dL_law_559 : decode cL_law 559 = .ok (.iconst 1, 1) := by decide +kernel
theorem dL_law_560 : decode cL_law 560 = .ok (.iadd, 1) := by decide +kernel
theorem dL_law_561 : decode cL_law 561 = .ok (.iaload, 1) := by decide +kernel
theorem dL_law_562 : decode cL_law 562 = .ok (.invokevirtual 67, 3) := by decide +kernel
theorem dL_law_565 : decode cL_law 565 = .ok (.if_icmp .eq 391, 3) := by decide +kernel
theorem dL_law_568 : decode cL_law 568 = .ok (.iconst 0, 1) := by decide +kernel
theorem dL_law_569 : decode cL_law 569 = .ok (.ireturn, 1) := by decide +kernel
theorem dL_law_570 : decode cL_law 570 = .ok (.aload_n 1, 1) := by decide +kernel
theorem dL_law_571 : decode cL_law 571 = .ok (.aload_n 0, 1) := by decide +kernel
theorem dL_law_572 : decode cL_law 572 = .ok (.iload_n 3, 1) := by decide +kernel
theorem dL_law_573 : decode cL_law 573 = .ok (.iconst 1, 1) := by decide +kernel
theorem dL_law_574 : decode cL_law 574 = .ok (.iadd, 1) := by decide +kernel
theorem dL_law_575 : decode cL_law 575 = .ok (.iaload, 1) := by decide +kernel
theorem dL_law_576 : decode cL_law 576 = .ok (.aload_n 0, 1) := by decide +kernel
theorem dL_law_577 : decode cL_law 577 = .ok (.iload_n 3, 1) := by decide +kernel
theorem dL_law_578 : decode cL_law 578 = .ok (.iconst 2, 1) := by decide +kernel
theorem dL_law_579 : decode cL_law 579 = .ok (.iadd, 1) := by decide +kernel
theorem dL_law_580 : decode cL_law 580 = .ok (.iaload, 1) := by decide +kernel
theorem dL_law_581 : decode cL_law 581 = .ok (.aload_n 0, 1) := by decide +kernel
theorem dL_law_582 : decode cL_law 582 = .ok (.iload_n 3, 1) := by decide +kernel
theorem dL_law_583 : decode cL_law 583 = .ok (.iconst 3, 1) := by decide +kernel
theorem dL_law_584 : decode cL_law 584 = .ok (.iadd, 1) := by decide +kernel
theorem dL_law_585 : decode cL_law 585 = .ok (.iaload, 1) := by decide +kernel
theorem dL_law_586 : decode cL_law 586 = .ok (.aload_n 0, 1) := by decide +kernel
theorem dL_law_587 : decode cL_law 587 = .ok (.iload_n 3, 1) := by decide +kernel
theorem dL_law_588 : decode cL_law 588 = .ok (.iconst 4, 1) := by decide +kernel
theorem dL_law_589 : decode cL_law 589 = .ok (.iadd, 1) := by decide +kernel
theorem dL_law_590 : decode cL_law 590 = .ok (.iaload, 1) := by decide +kernel
theorem dL_law_591 : decode cL_law 591 = .ok (.invokevirtual 68, 3) := by decide +kernel
theorem dL_law_594 : decode cL_law 594 = .ok (.aload_n 2, 1) := by decide +kernel
theorem dL_law_595 : decode cL_law 595 = .ok (.aload_n 0, 1) := by decide +kernel
theorem dL_law_596 : decode cL_law 596 = .ok (.iload_n 3, 1) := by decide +kernel
theorem dL_law_597 : decode cL_law 597 = .ok (.iconst 1, 1) := by decide +kernel
theorem dL_law_598 : decode cL_law 598 = .ok (.iadd, 1) := by decide +kernel
theorem dL_law_599 : decode cL_law 599 = .ok (.iaload, 1) := by decide +kernel
theorem dL_law_600 : decode cL_law 600 = .ok (.aload_n 0, 1) := by decide +kernel
theorem dL_law_601 : decode cL_law 601 = .ok (.iload_n 3, 1) := by decide +kernel
theorem dL_law_602 : decode cL_law 602 = .ok (.iconst 2, 1) := by decide +kernel
theorem dL_law_603 : decode cL_law 603 = .ok (.iadd, 1) := by decide +kernel
theorem dL_law_604 : decode cL_law 604 = .ok (.iaload, 1) := by decide +kernel
theorem dL_law_605 : decode cL_law 605 = .ok (.aload_n 0, 1) := by decide +kernel
theorem dL_law_606 : decode cL_law 606 = .ok (.iload_n 3, 1) := by decide +kernel
theorem dL_law_607 : decode cL_law 607 = .ok (.iconst 3, 1) := by decide +kernel
theorem dL_law_608 : decode cL_law 608 = .ok (.iadd, 1) := by decide +kernel
theorem dL_law_609 : decode cL_law 609 = .ok (.iaload, 1) := by decide +kernel
theorem dL_law_610 : decode cL_law 610 = .ok (.aload_n 0, 1) := by decide +kernel
theorem dL_law_611 : decode cL_law 611 = .ok (.iload_n 3, 1) := by decide +kernel
theorem dL_law_612 : decode cL_law 612 = .ok (.iconst 4, 1) := by decide +kernel
theorem dL_law_613 : decode cL_law 613 = .ok (.iadd, 1) := by decide +kernel
theorem dL_law_614 : decode cL_law 614 = .ok (.iaload, 1) := by decide +kernel
theorem dL_law_615 : decode cL_law 615 = .ok (.invokevirtual 71, 3) := by decide +kernel
theorem dL_law_618 : decode cL_law 618 = .ok (.if_icmp .eq 338, 3) := by decide +kernel
theorem dL_law_621 : decode cL_law 621 = .ok (.iconst 0, 1) := by decide +kernel
theorem dL_law_622 : decode cL_law 622 = .ok (.ireturn, 1) := by decide +kernel
theorem dL_law_623 : decode cL_law 623 = .ok (.aload_n 1, 1) := by decide +kernel
theorem dL_law_624 : decode cL_law 624 = .ok (.invokevirtual 72, 3) := by decide +kernel
theorem dL_law_627 : decode cL_law 627 = .ok (.aload_n 2, 1) := by decide +kernel
theorem dL_law_628 : decode cL_law 628 = .ok (.invokevirtual 76, 3) := by decide +kernel
theorem dL_law_631 : decode cL_law 631 = .ok (.if_icmp .eq 325, 3) := by decide +kernel
theorem dL_law_634 : decode cL_law 634 = .ok (.iconst 0, 1) := by decide +kernel
theorem dL_law_635 : decode cL_law 635 = .ok (.ireturn, 1) := by decide +kernel
theorem dL_law_636 : decode cL_law 636 = .ok (.aload_n 1, 1) := by decide +kernel
theorem dL_law_637 : decode cL_law 637 = .ok (.invokevirtual 77, 3) := by decide +kernel
theorem dL_law_640 : decode cL_law 640 = .ok (.aload_n 2, 1) := by decide +kernel
theorem dL_law_641 : decode cL_law 641 = .ok (.invokevirtual 80, 3) := by decide +kernel
theorem dL_law_644 : decode cL_law 644 = .ok (.if_icmp .eq 312, 3) := by decide +kernel
theorem dL_law_647 : decode cL_law 647 = .ok (.iconst 0, 1) := by decide +kernel
theorem dL_law_648 : decode cL_law 648 = .ok (.ireturn, 1) := by decide +kernel
theorem dL_law_649 : decode cL_law 649 = .ok (.aload_n 1, 1) := by decide +kernel
theorem dL_law_650 : decode cL_law 650 = .ok (.invokevirtual 81, 3) := by decide +kernel
theorem dL_law_653 : decode cL_law 653 = .ok (.aload_n 2, 1) := by decide +kernel
theorem dL_law_654 : decode cL_law 654 = .ok (.invokevirtual 84, 3) := by decide +kernel
theorem dL_law_657 : decode cL_law 657 = .ok (.if_icmp .eq 299, 3) := by decide +kernel
theorem dL_law_660 : decode cL_law 660 = .ok (.iconst 0, 1) := by decide +kernel
theorem dL_law_661 : decode cL_law 661 = .ok (.ireturn, 1) := by decide +kernel
theorem dL_law_662 : decode cL_law 662 = .ok (.aload_n 1, 1) := by decide +kernel
theorem dL_law_663 : decode cL_law 663 = .ok (.aload_n 0, 1) := by decide +kernel
theorem dL_law_664 : decode cL_law 664 = .ok (.iload_n 3, 1) := by decide +kernel
theorem dL_law_665 : decode cL_law 665 = .ok (.iconst 1, 1) := by decide +kernel
theorem dL_law_666 : decode cL_law 666 = .ok (.iadd, 1) := by decide +kernel
theorem dL_law_667 : decode cL_law 667 = .ok (.iaload, 1) := by decide +kernel
theorem dL_law_668 : decode cL_law 668 = .ok (.invokevirtual 85, 3) := by decide +kernel
theorem dL_law_671 : decode cL_law 671 = .ok (.aload_n 2, 1) := by decide +kernel
theorem dL_law_672 : decode cL_law 672 = .ok (.aload_n 0, 1) := by decide +kernel
theorem dL_law_673 : decode cL_law 673 = .ok (.iload_n 3, 1) := by decide +kernel
theorem dL_law_674 : decode cL_law 674 = .ok (.iconst 1, 1) := by decide +kernel
theorem dL_law_675 : decode cL_law 675 = .ok (.iadd, 1) := by decide +kernel
theorem dL_law_676 : decode cL_law 676 = .ok (.iaload, 1) := by decide +kernel
theorem dL_law_677 : decode cL_law 677 = .ok (.invokevirtual 88, 3) := by decide +kernel
theorem dL_law_680 : decode cL_law 680 = .ok (.if_icmp .eq 276, 3) := by decide +kernel
theorem dL_law_683 : decode cL_law 683 = .ok (.iconst 0, 1) := by decide +kernel
theorem dL_law_684 : decode cL_law 684 = .ok (.ireturn, 1) := by decide +kernel
theorem dL_law_685 : decode cL_law 685 = .ok (.aload_n 1, 1) := by decide +kernel
theorem dL_law_686 : decode cL_law 686 = .ok (.aload_n 0, 1) := by decide +kernel
theorem dL_law_687 : decode cL_law 687 = .ok (.iload_n 3, 1) := by decide +kernel
theorem dL_law_688 : decode cL_law 688 = .ok (.iconst 1, 1) := by decide +kernel
theorem dL_law_689 : decode cL_law 689 = .ok (.iadd, 1) := by decide +kernel
theorem dL_law_690 : decode cL_law 690 = .ok (.iaload, 1) := by decide +kernel
theorem dL_law_691 : decode cL_law 691 = .ok (.invokevirtual 89, 3) := by decide +kernel
theorem dL_law_694 : decode cL_law 694 = .ok (.aload_n 2, 1) := by decide +kernel
theorem dL_law_695 : decode cL_law 695 = .ok (.aload_n 0, 1) := by decide +kernel
theorem dL_law_696 : decode cL_law 696 = .ok (.iload_n 3, 1) := by decide +kernel
theorem dL_law_697 : decode cL_law 697 = .ok (.iconst 1, 1) := by decide +kernel
theorem dL_law_698 : decode cL_law 698 = .ok (.iadd, 1) := by decide +kernel
theorem dL_law_699 : decode cL_law 699 = .ok (.iaload, 1) := by decide +kernel
theorem dL_law_700 : decode cL_law 700 = .ok (.invokevirtual 92, 3) := by decide +kernel
theorem dL_law_703 : decode cL_law 703 = .ok (.if_icmp .eq 253, 3) := by decide +kernel
theorem dL_law_706 : decode cL_law 706 = .ok (.iconst 0, 1) := by decide +kernel
theorem dL_law_707 : decode cL_law 707 = .ok (.ireturn, 1) := by decide +kernel
theorem dL_law_708 : decode cL_law 708 = .ok (.aload_n 1, 1) := by decide +kernel
theorem dL_law_709 : decode cL_law 709 = .ok (.aload_n 0, 1) := by decide +kernel
theorem dL_law_710 : decode cL_law 710 = .ok (.iload_n 3, 1) := by decide +kernel
theorem dL_law_711 : decode cL_law 711 = .ok (.iconst 1, 1) := by decide +kernel
theorem dL_law_712 : decode cL_law 712 = .ok (.iadd, 1) := by decide +kernel
theorem dL_law_713 : decode cL_law 713 = .ok (.iaload, 1) := by decide +kernel
theorem dL_law_714 : decode cL_law 714 = .ok (.aload_n 0, 1) := by decide +kernel
theorem dL_law_715 : decode cL_law 715 = .ok (.iload_n 3, 1) := by decide +kernel
theorem dL_law_716 : decode cL_law 716 = .ok (.iconst 2, 1) := by decide +kernel
theorem dL_law_717 : decode cL_law 717 = .ok (.iadd, 1) := by decide +kernel
theorem dL_law_718 : decode cL_law 718 = .ok (.iaload, 1) := by decide +kernel
theorem dL_law_719 : decode cL_law 719 = .ok (.aload_n 0, 1) := by decide +kernel
theorem dL_law_720 : decode cL_law 720 = .ok (.iload_n 3, 1) := by decide +kernel
theorem dL_law_721 : decode cL_law 721 = .ok (.iconst 3, 1) := by decide +kernel
theorem dL_law_722 : decode cL_law 722 = .ok (.iadd, 1) := by decide +kernel
theorem dL_law_723 : decode cL_law 723 = .ok (.iaload, 1) := by decide +kernel
theorem dL_law_724 : decode cL_law 724 = .ok (.aload_n 0, 1) := by decide +kernel
theorem dL_law_725 : decode cL_law 725 = .ok (.iload_n 3, 1) := by decide +kernel
theorem dL_law_726 : decode cL_law 726 = .ok (.iconst 4, 1) := by decide +kernel
theorem dL_law_727 : decode cL_law 727 = .ok (.iadd, 1) := by decide +kernel
theorem dL_law_728 : decode cL_law 728 = .ok (.iaload, 1) := by decide +kernel
theorem dL_law_729 : decode cL_law 729 = .ok (.aload_n 0, 1) := by decide +kernel
theorem dL_law_730 : decode cL_law 730 = .ok (.iload_n 3, 1) := by decide +kernel
theorem dL_law_731 : decode cL_law 731 = .ok (.iconst 5, 1) := by decide +kernel
theorem dL_law_732 : decode cL_law 732 = .ok (.iadd, 1) := by decide +kernel
theorem dL_law_733 : decode cL_law 733 = .ok (.iaload, 1) := by decide +kernel
theorem dL_law_734 : decode cL_law 734 = .ok (.invokevirtual 93, 3) := by decide +kernel
theorem dL_law_737 : decode cL_law 737 = .ok (.aload_n 2, 1) := by decide +kernel
theorem dL_law_738 : decode cL_law 738 = .ok (.aload_n 0, 1) := by decide +kernel
theorem dL_law_739 : decode cL_law 739 = .ok (.iload_n 3, 1) := by decide +kernel
theorem dL_law_740 : decode cL_law 740 = .ok (.iconst 1, 1) := by decide +kernel
theorem dL_law_741 : decode cL_law 741 = .ok (.iadd, 1) := by decide +kernel
theorem dL_law_742 : decode cL_law 742 = .ok (.iaload, 1) := by decide +kernel
theorem dL_law_743 : decode cL_law 743 = .ok (.aload_n 0, 1) := by decide +kernel
theorem dL_law_744 : decode cL_law 744 = .ok (.iload_n 3, 1) := by decide +kernel
theorem dL_law_745 : decode cL_law 745 = .ok (.iconst 2, 1) := by decide +kernel
theorem dL_law_746 : decode cL_law 746 = .ok (.iadd, 1) := by decide +kernel
theorem dL_law_747 : decode cL_law 747 = .ok (.iaload, 1) := by decide +kernel
theorem dL_law_748 : decode cL_law 748 = .ok (.aload_n 0, 1) := by decide +kernel
theorem dL_law_749 : decode cL_law 749 = .ok (.iload_n 3, 1) := by decide +kernel
theorem dL_law_750 : decode cL_law 750 = .ok (.iconst 3, 1) := by decide +kernel
theorem dL_law_751 : decode cL_law 751 = .ok (.iadd, 1) := by decide +kernel
theorem dL_law_752 : decode cL_law 752 = .ok (.iaload, 1) := by decide +kernel
theorem dL_law_753 : decode cL_law 753 = .ok (.aload_n 0, 1) := by decide +kernel
theorem dL_law_754 : decode cL_law 754 = .ok (.iload_n 3, 1) := by decide +kernel
theorem dL_law_755 : decode cL_law 755 = .ok (.iconst 4, 1) := by decide +kernel
theorem dL_law_756 : decode cL_law 756 = .ok (.iadd, 1) := by decide +kernel
theorem dL_law_757 : decode cL_law 757 = .ok (.iaload, 1) := by decide +kernel
theorem dL_law_758 : decode cL_law 758 = .ok (.aload_n 0, 1) := by decide +kernel
theorem dL_law_759 : decode cL_law 759 = .ok (.iload_n 3, 1) := by decide +kernel
theorem dL_law_760 : decode cL_law 760 = .ok (.iconst 5, 1) := by decide +kernel
theorem dL_law_761 : decode cL_law 761 = .ok (.iadd, 1) := by decide +kernel
theorem dL_law_762 : decode cL_law 762 = .ok (.iaload, 1) := by decide +kernel
theorem dL_law_763 : decode cL_law 763 = .ok (.invokevirtual 96, 3) := by decide +kernel
theorem dL_law_766 : decode cL_law 766 = .ok (.if_icmp .eq 190, 3) := by decide +kernel
theorem dL_law_769 : decode cL_law 769 = .ok (.iconst 0, 1) := by decide +kernel
theorem dL_law_770 : decode cL_law 770 = .ok (.ireturn, 1) := by decide +kernel
theorem dL_law_771 : decode cL_law 771 = .ok (.aload_n 1, 1) := by decide +kernel
theorem dL_law_772 : decode cL_law 772 = .ok (.aload_n 0, 1) := by decide +kernel
theorem dL_law_773 : decode cL_law 773 = .ok (.iload_n 3, 1) := by decide +kernel
theorem dL_law_774 : decode cL_law 774 = .ok (.iconst 1, 1) := by decide +kernel
theorem dL_law_775 : decode cL_law 775 = .ok (.iadd, 1) := by decide +kernel
theorem dL_law_776 : decode cL_law 776 = .ok (.iaload, 1) := by decide +kernel
theorem dL_law_777 : decode cL_law 777 = .ok (.invokevirtual 97, 3) := by decide +kernel
theorem dL_law_780 : decode cL_law 780 = .ok (.aload_n 2, 1) := by decide +kernel
theorem dL_law_781 : decode cL_law 781 = .ok (.aload_n 0, 1) := by decide +kernel
theorem dL_law_782 : decode cL_law 782 = .ok (.iload_n 3, 1) := by decide +kernel
theorem dL_law_783 : decode cL_law 783 = .ok (.iconst 1, 1) := by decide +kernel
theorem dL_law_784 : decode cL_law 784 = .ok (.iadd, 1) := by decide +kernel
theorem dL_law_785 : decode cL_law 785 = .ok (.iaload, 1) := by decide +kernel
theorem dL_law_786 : decode cL_law 786 = .ok (.invokevirtual 101, 3) := by decide +kernel
theorem dL_law_789 : decode cL_law 789 = .ok (.if_icmp .eq 167, 3) := by decide +kernel
theorem dL_law_792 : decode cL_law 792 = .ok (.iconst 0, 1) := by decide +kernel
theorem dL_law_793 : decode cL_law 793 = .ok (.ireturn, 1) := by decide +kernel
theorem dL_law_794 : decode cL_law 794 = .ok (.aload_n 1, 1) := by decide +kernel
theorem dL_law_795 : decode cL_law 795 = .ok (.aload_n 0, 1) := by decide +kernel
theorem dL_law_796 : decode cL_law 796 = .ok (.iload_n 3, 1) := by decide +kernel
theorem dL_law_797 : decode cL_law 797 = .ok (.iconst 1, 1) := by decide +kernel
theorem dL_law_798 : decode cL_law 798 = .ok (.iadd, 1) := by decide +kernel
theorem dL_law_799 : decode cL_law 799 = .ok (.iaload, 1) := by decide +kernel
theorem dL_law_800 : decode cL_law 800 = .ok (.aload_n 0, 1) := by decide +kernel
theorem dL_law_801 : decode cL_law 801 = .ok (.iload_n 3, 1) := by decide +kernel
theorem dL_law_802 : decode cL_law 802 = .ok (.iconst 2, 1) := by decide +kernel
theorem dL_law_803 : decode cL_law 803 = .ok (.iadd, 1) := by decide +kernel
theorem dL_law_804 : decode cL_law 804 = .ok (.iaload, 1) := by decide +kernel
theorem dL_law_805 : decode cL_law 805 = .ok (.aload_n 0, 1) := by decide +kernel
theorem dL_law_806 : decode cL_law 806 = .ok (.iload_n 3, 1) := by decide +kernel
theorem dL_law_807 : decode cL_law 807 = .ok (.iconst 3, 1) := by decide +kernel
theorem dL_law_808 : decode cL_law 808 = .ok (.iadd, 1) := by decide +kernel
theorem dL_law_809 : decode cL_law 809 = .ok (.iaload, 1) := by decide +kernel
theorem dL_law_810 : decode cL_law 810 = .ok (.aload_n 0, 1) := by decide +kernel
theorem dL_law_811 : decode cL_law 811 = .ok (.iload_n 3, 1) := by decide +kernel
theorem dL_law_812 : decode cL_law 812 = .ok (.iconst 4, 1) := by decide +kernel
theorem dL_law_813 : decode cL_law 813 = .ok (.iadd, 1) := by decide +kernel
theorem dL_law_814 : decode cL_law 814 = .ok (.iaload, 1) := by decide +kernel
theorem dL_law_815 : decode cL_law 815 = .ok (.invokevirtual 102, 3) := by decide +kernel
theorem dL_law_818 : decode cL_law 818 = .ok (.aload_n 2, 1) := by decide +kernel
theorem dL_law_819 : decode cL_law 819 = .ok (.aload_n 0, 1) := by decide +kernel
theorem dL_law_820 : decode cL_law 820 = .ok (.iload_n 3, 1) := by decide +kernel
theorem dL_law_821 : decode cL_law 821 = .ok (.iconst 1, 1) := by decide +kernel
theorem dL_law_822 : decode cL_law 822 = .ok (.iadd, 1) := by decide +kernel
theorem dL_law_823 : decode cL_law 823 = .ok (.iaload, 1) := by decide +kernel
theorem dL_law_824 : decode cL_law 824 = .ok (.aload_n 0, 1) := by decide +kernel
theorem dL_law_825 : decode cL_law 825 = .ok (.iload_n 3, 1) := by decide +kernel
theorem dL_law_826 : decode cL_law 826 = .ok (.iconst 2, 1) := by decide +kernel
theorem dL_law_827 : decode cL_law 827 = .ok (.iadd, 1) := by decide +kernel
theorem dL_law_828 : decode cL_law 828 = .ok (.iaload, 1) := by decide +kernel
theorem dL_law_829 : decode cL_law 829 = .ok (.aload_n 0, 1) := by decide +kernel
theorem dL_law_830 : decode cL_law 830 = .ok (.iload_n 3, 1) := by decide +kernel
theorem dL_law_831 : decode cL_law 831 = .ok (.iconst 3, 1) := by decide +kernel
theorem dL_law_832 : decode cL_law 832 = .ok (.iadd, 1) := by decide +kernel
theorem dL_law_833 : decode cL_law 833 = .ok (.iaload, 1) := by decide +kernel
theorem dL_law_834 : decode cL_law 834 = .ok (.aload_n 0, 1) := by decide +kernel
theorem dL_law_835 : decode cL_law 835 = .ok (.iload_n 3, 1) := by decide +kernel
theorem dL_law_836 : decode cL_law 836 = .ok (.iconst 4, 1) := by decide +kernel
theorem dL_law_837 : decode cL_law 837 = .ok (.iadd, 1) := by decide +kernel
theorem dL_law_838 : decode cL_law 838 = .ok (.iaload, 1) := by decide +kernel
theorem dL_law_839 : decode cL_law 839 = .ok (.invokevirtual 105, 3) := by decide +kernel
theorem dL_law_842 : decode cL_law 842 = .ok (.if_icmp .eq 114, 3) := by decide +kernel
theorem dL_law_845 : decode cL_law 845 = .ok (.iconst 0, 1) := by decide +kernel
theorem dL_law_846 : decode cL_law 846 = .ok (.ireturn, 1) := by decide +kernel
theorem dL_law_847 : decode cL_law 847 = .ok (.aload_n 1, 1) := by decide +kernel
theorem dL_law_848 : decode cL_law 848 = .ok (.aload_n 0, 1) := by decide +kernel
theorem dL_law_849 : decode cL_law 849 = .ok (.iload_n 3, 1) := by decide +kernel
theorem dL_law_850 : decode cL_law 850 = .ok (.iconst 1, 1) := by decide +kernel
theorem dL_law_851 : decode cL_law 851 = .ok (.iadd, 1) := by decide +kernel
theorem dL_law_852 : decode cL_law 852 = .ok (.iaload, 1) := by decide +kernel
theorem dL_law_853 : decode cL_law 853 = .ok (.aload_n 0, 1) := by decide +kernel
theorem dL_law_854 : decode cL_law 854 = .ok (.iload_n 3, 1) := by decide +kernel
theorem dL_law_855 : decode cL_law 855 = .ok (.iconst 2, 1) := by decide +kernel
theorem dL_law_856 : decode cL_law 856 = .ok (.iadd, 1) := by decide +kernel
theorem dL_law_857 : decode cL_law 857 = .ok (.iaload, 1) := by decide +kernel
theorem dL_law_858 : decode cL_law 858 = .ok (.aload_n 0, 1) := by decide +kernel
theorem dL_law_859 : decode cL_law 859 = .ok (.iload_n 3, 1) := by decide +kernel
theorem dL_law_860 : decode cL_law 860 = .ok (.iconst 3, 1) := by decide +kernel
theorem dL_law_861 : decode cL_law 861 = .ok (.iadd, 1) := by decide +kernel
theorem dL_law_862 : decode cL_law 862 = .ok (.iaload, 1) := by decide +kernel
theorem dL_law_863 : decode cL_law 863 = .ok (.aload_n 0, 1) := by decide +kernel
theorem dL_law_864 : decode cL_law 864 = .ok (.iload_n 3, 1) := by decide +kernel
theorem dL_law_865 : decode cL_law 865 = .ok (.iconst 4, 1) := by decide +kernel
theorem dL_law_866 : decode cL_law 866 = .ok (.iadd, 1) := by decide +kernel
theorem dL_law_867 : decode cL_law 867 = .ok (.iaload, 1) := by decide +kernel
theorem dL_law_868 : decode cL_law 868 = .ok (.invokevirtual 106, 3) := by decide +kernel
theorem dL_law_871 : decode cL_law 871 = .ok (.aload_n 2, 1) := by decide +kernel
theorem dL_law_872 : decode cL_law 872 = .ok (.aload_n 0, 1) := by decide +kernel
theorem dL_law_873 : decode cL_law 873 = .ok (.iload_n 3, 1) := by decide +kernel
theorem dL_law_874 : decode cL_law 874 = .ok (.iconst 1, 1) := by decide +kernel
theorem dL_law_875 : decode cL_law 875 = .ok (.iadd, 1) := by decide +kernel
theorem dL_law_876 : decode cL_law 876 = .ok (.iaload, 1) := by decide +kernel
theorem dL_law_877 : decode cL_law 877 = .ok (.aload_n 0, 1) := by decide +kernel
theorem dL_law_878 : decode cL_law 878 = .ok (.iload_n 3, 1) := by decide +kernel
theorem dL_law_879 : decode cL_law 879 = .ok (.iconst 2, 1) := by decide +kernel
theorem dL_law_880 : decode cL_law 880 = .ok (.iadd, 1) := by decide +kernel
theorem dL_law_881 : decode cL_law 881 = .ok (.iaload, 1) := by decide +kernel
theorem dL_law_882 : decode cL_law 882 = .ok (.aload_n 0, 1) := by decide +kernel
theorem dL_law_883 : decode cL_law 883 = .ok (.iload_n 3, 1) := by decide +kernel
theorem dL_law_884 : decode cL_law 884 = .ok (.iconst 3, 1) := by decide +kernel
theorem dL_law_885 : decode cL_law 885 = .ok (.iadd, 1) := by decide +kernel
theorem dL_law_886 : decode cL_law 886 = .ok (.iaload, 1) := by decide +kernel
theorem dL_law_887 : decode cL_law 887 = .ok (.aload_n 0, 1) := by decide +kernel
theorem dL_law_888 : decode cL_law 888 = .ok (.iload_n 3, 1) := by decide +kernel
theorem dL_law_889 : decode cL_law 889 = .ok (.iconst 4, 1) := by decide +kernel
theorem dL_law_890 : decode cL_law 890 = .ok (.iadd, 1) := by decide +kernel
theorem dL_law_891 : decode cL_law 891 = .ok (.iaload, 1) := by decide +kernel
theorem dL_law_892 : decode cL_law 892 = .ok (.invokevirtual 109, 3) := by decide +kernel
theorem dL_law_895 : decode cL_law 895 = .ok (.if_icmp .eq 61, 3) := by decide +kernel
theorem dL_law_898 : decode cL_law 898 = .ok (.iconst 0, 1) := by decide +kernel
theorem dL_law_899 : decode cL_law 899 = .ok (.ireturn, 1) := by decide +kernel
theorem dL_law_900 : decode cL_law 900 = .ok (.aload_n 1, 1) := by decide +kernel
theorem dL_law_901 : decode cL_law 901 = .ok (.aload_n 0, 1) := by decide +kernel
theorem dL_law_902 : decode cL_law 902 = .ok (.iload_n 3, 1) := by decide +kernel
theorem dL_law_903 : decode cL_law 903 = .ok (.iconst 1, 1) := by decide +kernel
theorem dL_law_904 : decode cL_law 904 = .ok (.iadd, 1) := by decide +kernel
theorem dL_law_905 : decode cL_law 905 = .ok (.iaload, 1) := by decide +kernel
theorem dL_law_906 : decode cL_law 906 = .ok (.aload_n 0, 1) := by decide +kernel
theorem dL_law_907 : decode cL_law 907 = .ok (.iload_n 3, 1) := by decide +kernel
theorem dL_law_908 : decode cL_law 908 = .ok (.iconst 2, 1) := by decide +kernel
theorem dL_law_909 : decode cL_law 909 = .ok (.iadd, 1) := by decide +kernel
theorem dL_law_910 : decode cL_law 910 = .ok (.iaload, 1) := by decide +kernel
theorem dL_law_911 : decode cL_law 911 = .ok (.invokevirtual 110, 3) := by decide +kernel
theorem dL_law_914 : decode cL_law 914 = .ok (.aload_n 2, 1) := by decide +kernel
theorem dL_law_915 : decode cL_law 915 = .ok (.aload_n 0, 1) := by decide +kernel
theorem dL_law_916 : decode cL_law 916 = .ok (.iload_n 3, 1) := by decide +kernel
theorem dL_law_917 : decode cL_law 917 = .ok (.iconst 1, 1) := by decide +kernel
theorem dL_law_918 : decode cL_law 918 = .ok (.iadd, 1) := by decide +kernel
theorem dL_law_919 : decode cL_law 919 = .ok (.iaload, 1) := by decide +kernel
theorem dL_law_920 : decode cL_law 920 = .ok (.aload_n 0, 1) := by decide +kernel
theorem dL_law_921 : decode cL_law 921 = .ok (.iload_n 3, 1) := by decide +kernel
theorem dL_law_922 : decode cL_law 922 = .ok (.iconst 2, 1) := by decide +kernel
theorem dL_law_923 : decode cL_law 923 = .ok (.iadd, 1) := by decide +kernel
theorem dL_law_924 : decode cL_law 924 = .ok (.iaload, 1) := by decide +kernel
theorem dL_law_925 : decode cL_law 925 = .ok (.invokevirtual 114, 3) := by decide +kernel
theorem dL_law_928 : decode cL_law 928 = .ok (.if_icmp .eq 28, 3) := by decide +kernel
theorem dL_law_931 : decode cL_law 931 = .ok (.iconst 0, 1) := by decide +kernel
theorem dL_law_932 : decode cL_law 932 = .ok (.ireturn, 1) := by decide +kernel
theorem dL_law_933 : decode cL_law 933 = .ok (.aload_n 1, 1) := by decide +kernel
theorem dL_law_934 : decode cL_law 934 = .ok (.aload_n 0, 1) := by decide +kernel
theorem dL_law_935 : decode cL_law 935 = .ok (.iload_n 3, 1) := by decide +kernel
theorem dL_law_936 : decode cL_law 936 = .ok (.iconst 1, 1) := by decide +kernel
theorem dL_law_937 : decode cL_law 937 = .ok (.iadd, 1) := by decide +kernel
theorem dL_law_938 : decode cL_law 938 = .ok (.iaload, 1) := by decide +kernel
theorem dL_law_939 : decode cL_law 939 = .ok (.invokevirtual 115, 3) := by decide +kernel
theorem dL_law_942 : decode cL_law 942 = .ok (.aload_n 2, 1) := by decide +kernel
theorem dL_law_943 : decode cL_law 943 = .ok (.aload_n 0, 1) := by decide +kernel
theorem dL_law_944 : decode cL_law 944 = .ok (.iload_n 3, 1) := by decide +kernel
theorem dL_law_945 : decode cL_law 945 = .ok (.iconst 1, 1) := by decide +kernel
theorem dL_law_946 : decode cL_law 946 = .ok (.iadd, 1) := by decide +kernel
theorem dL_law_947 : decode cL_law 947 = .ok (.iaload, 1) := by decide +kernel
theorem dL_law_948 : decode cL_law 948 = .ok (.invokevirtual 118, 3) := by decide +kernel
theorem dL_law_951 : decode cL_law 951 = .ok (.if_icmp .eq 5, 3) := by decide +kernel
theorem dL_law_954 : decode cL_law 954 = .ok (.iconst 0, 1) := by decide +kernel
theorem dL_law_955 : decode cL_law 955 = .ok (.ireturn, 1) := by decide +kernel
theorem dL_law_956 : decode cL_law 956 = .ok (.iinc 3 6, 3) := by decide +kernel
theorem dL_law_959 : decode cL_law 959 = .ok (.goto (-941), 3) := by decide +kernel
theorem dL_law_962 : decode cL_law 962 = .ok (.iconst 1, 1) := by decide +kernel
theorem dL_law_963 : decode cL_law 963 = .ok (.ireturn, 1) := by decide +kernel
end
