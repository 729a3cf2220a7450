/-! the start: the class -/
theorem con_X10_0 {l : Launch} {E : EE} {B0 : Nat} (hE : HE E B0) : CON l E B0 mX10_init 10 (RX10, TX10, 9) tyX10 0 117 116 9700 8 := by
  refine CON.ofW hE (by decide +kernel) rfl rfl (by decide) ?_
  intro p e s m args below meth c lr he hC0 hL
  have ha := lv_at hL 0 rfl
  have hz := hL.1
  have hx := he.1
  have hb := he.2.1
  have hlo0 : LO B0 [] := fun q hq => by cases hq
  refine C_obj he (in_place 90 (by decide +kernel) rfl) oi_in oi_co hz dX10_init_0 dX10_init_1 ha (by decide) (by decide) ?_
  refine lv_aload_n hx hb dX10_init_4 rfl ha ?_
  refine C_new (n := 6) (N := 1) (cells' := 60) (slots' := 1649) he hC0 hlo0 cl_2 tyX2_ok (in_place 93 (by decide +kernel) rfl) (in_place 94 (by decide +kernel) rfl) (in_place 68 (by decide +kernel) rfl) dX10_init_5 dX10_init_8 dX10_init_9 (con_X2_1 hE) m0_X2_init rfl rfl (in_place 96 (by decide +kernel) rfl) (Or.inl (in_place 95 (by decide +kernel) rfl)) hz (by show 1 ≤ 7; decide) (by decide) (by decide) rfl (by decide) rfl (by decide) (by decide) (by decide) (fun _ _ _ => rfl) ?_
  intro H1 locs1 hC1 hlo1
  refine C_put (N := 61) (ty := .object "StoreRealm$Land") he hC1 hlo1 (by decide) dX10_init_12 cl_10 fl_X10_12 rfl (by decide +kernel) ⟨rfl, rfl⟩ ?_
  intro H2 locs2 hC2 hlo2
  refine lv_aload_n hx hb dX10_init_15 rfl ha ?_
  refine C_new (n := 4) (N := 61) (cells' := 61) (slots' := 1653) he hC2 hlo2 cl_7 tyX7_ok (in_place 176 (by decide +kernel) rfl) (in_place 177 (by decide +kernel) rfl) (in_place 71 (by decide +kernel) rfl) dX10_init_16 dX10_init_19 dX10_init_20 (con_X7_61 hE) m0_X7_init rfl rfl (in_place 179 (by decide +kernel) rfl) (Or.inr ⟨"StoreRealm", List.mem_of_getElem? (i := 1) (by decide +kernel)⟩) hz (by show 1 ≤ 7; decide) (by decide) (by decide) rfl (by decide) rfl (by decide) (by decide) (by decide) (fun _ _ _ => rfl) ?_
  intro H3 locs3 hC3 hlo3
  refine C_put (N := 62) (ty := .object "StoreRealm$Tally") he hC3 hlo3 (by decide) dX10_init_23 cl_10 fl_X10_19 rfl (by decide +kernel) ⟨rfl, rfl⟩ ?_
  intro H4 locs4 hC4 hlo4
  refine lv_aload_n hx hb dX10_init_26 rfl ha ?_
  refine C_new (n := 6) (N := 62) (cells' := 67) (slots' := 1959) he hC4 hlo4 cl_0 tyX0_ok (in_place 200 (by decide +kernel) rfl) (in_place 201 (by decide +kernel) rfl) (in_place 72 (by decide +kernel) rfl) dX10_init_27 dX10_init_30 dX10_init_31 (con_X0_62 hE) m0_X0_init rfl rfl (in_place 203 (by decide +kernel) rfl) (Or.inr ⟨"StoreRealm", List.mem_of_getElem? (i := 2) (by decide +kernel)⟩) hz (by show 1 ≤ 7; decide) (by decide) (by decide) rfl (by decide) rfl (by decide) (by decide) (by decide) (fun _ _ _ => rfl) ?_
  intro H5 locs5 hC5 hlo5
  refine C_put (N := 68) (ty := .object "StoreRealm$Carriers") he hC5 hlo5 (by decide) dX10_init_34 cl_10 fl_X10_26 rfl (by decide +kernel) ⟨rfl, rfl⟩ ?_
  intro H6 locs6 hC6 hlo6
  refine lv_aload_n hx hb dX10_init_37 rfl ha ?_
  refine lv_sipush hx hb dX10_init_38 (v := 1000) rfl ?_
  refine C_ap (N := 68) (t := 1) (n := 1000) (cells' := 68) (slots' := 2959) (ty := .array .byte) he hC6 hlo6 (by decide) dX10_init_41 dX10_init_43 cl_10 fl_X10_30 rfl (by decide +kernel) (fun _ => ⟨rfl, rfl⟩) rfl (by decide) ac_1 rfl (by decide) (by decide) (by decide) (by decide) rfl rfl (fun _ => rfl) rfl rfl (by decide) rfl (by decide) ?_
  intro H7 locs7 hC7 hlo7
  refine lv_aload_n hx hb dX10_init_46 rfl ha ?_
  refine C_new (n := 8) (N := 69) (cells' := 89) (slots' := 7203) he hC7 hlo7 cl_4 tyX4_ok (in_place 226 (by decide +kernel) rfl) (in_place 227 (by decide +kernel) rfl) (in_place 73 (by decide +kernel) rfl) dX10_init_47 dX10_init_50 dX10_init_51 (con_X4_69 hE) m0_X4_init rfl rfl (in_place 229 (by decide +kernel) rfl) (Or.inr ⟨"StoreRealm", List.mem_of_getElem? (i := 3) (by decide +kernel)⟩) hz (by show 1 ≤ 7; decide) (by decide) (by decide) rfl (by decide) rfl (by decide) (by decide) (by decide) (fun _ _ _ => rfl) ?_
  intro H8 locs8 hC8 hlo8
  refine C_put (N := 90) (ty := .object "StoreRealm$OrderBook") he hC8 hlo8 (by decide) dX10_init_54 cl_10 fl_X10_37 rfl (by decide +kernel) ⟨rfl, rfl⟩ ?_
  intro H9 locs9 hC9 hlo9
  refine lv_aload_n hx hb dX10_init_57 rfl ha ?_
  refine C_new (n := 5) (N := 90) (cells' := 94) (slots' := 7248) he hC9 hlo9 cl_1 tyX1_ok (in_place 325 (by decide +kernel) rfl) (in_place 326 (by decide +kernel) rfl) (in_place 76 (by decide +kernel) rfl) dX10_init_58 dX10_init_61 dX10_init_62 (con_X1_90 hE) m0_X1_init rfl rfl (in_place 328 (by decide +kernel) rfl) (Or.inr ⟨"StoreRealm", List.mem_of_getElem? (i := 6) (by decide +kernel)⟩) hz (by show 1 ≤ 7; decide) (by decide) (by decide) rfl (by decide) rfl (by decide) (by decide) (by decide) (fun _ _ _ => rfl) ?_
  intro H10 locs10 hC10 hlo10
  refine C_put (N := 95) (ty := .object "StoreRealm$Feasts") he hC10 hlo10 (by decide) dX10_init_65 cl_10 fl_X10_44 rfl (by decide +kernel) ⟨rfl, rfl⟩ ?_
  intro H11 locs11 hC11 hlo11
  refine lv_aload_n hx hb dX10_init_68 rfl ha ?_
  refine C_new (n := 17) (N := 95) (cells' := 108) (slots' := 9325) he hC11 hlo11 cl_6 tyX6_ok (in_place 353 (by decide +kernel) rfl) (in_place 354 (by decide +kernel) rfl) (in_place 77 (by decide +kernel) rfl) dX10_init_69 dX10_init_72 dX10_init_73 (con_X6_95 hE) m0_X6_init rfl rfl (in_place 356 (by decide +kernel) rfl) (Or.inr ⟨"StoreRealm", List.mem_of_getElem? (i := 7) (by decide +kernel)⟩) hz (by show 1 ≤ 7; decide) (by decide) (by decide) rfl (by decide) rfl (by decide) (by decide) (by decide) (fun _ _ _ => rfl) ?_
  intro H12 locs12 hC12 hlo12
  refine C_put (N := 109) (ty := .object "StoreRealm$Planner") he hC12 hlo12 (by decide) dX10_init_76 cl_10 fl_X10_51 rfl (by decide +kernel) ⟨rfl, rfl⟩ ?_
  intro H13 locs13 hC13 hlo13
  refine lv_aload_n hx hb dX10_init_79 rfl ha ?_
  refine C_new (n := 10) (N := 109) (cells' := 116) (slots' := 9700) he hC13 hlo13 cl_3 tyX3_ok (in_place 413 (by decide +kernel) rfl) (in_place 414 (by decide +kernel) rfl) (in_place 78 (by decide +kernel) rfl) dX10_init_80 dX10_init_83 dX10_init_84 (con_X3_109 hE) m0_X3_init rfl rfl (in_place 416 (by decide +kernel) rfl) (Or.inr ⟨"StoreRealm", List.mem_of_getElem? (i := 8) (by decide +kernel)⟩) hz (by show 1 ≤ 7; decide) (by decide) (by decide) rfl (by decide) rfl (by decide) (by decide) (by decide) (fun _ _ _ => rfl) ?_
  intro H14 locs14 hC14 hlo14
  refine C_put (N := 117) (ty := .object "StoreRealm$Ledger") he hC14 hlo14 (by decide) dX10_init_87 cl_10 fl_X10_58 rfl (by decide +kernel) ⟨rfl, rfl⟩ ?_
  intro H15 locs15 hC15 hlo15
  exact C_end (N := 117) he hC15 hlo15 (by decide) rfl dX10_init_90 rfl rfl rfl (fun _ _ _ => rfl) (f_s (f_s (f_s (f_s (f_s (f_s (f_s (f_s (f_s f_0 (congrArg Value.ref (hE 1 (by decide)).symm)) (congrArg Value.ref (hE 61 (by decide)).symm)) (congrArg Value.ref (hE 62 (by decide)).symm)) (congrArg Value.ref (hE 68 (by decide)).symm)) rfl) (congrArg Value.ref (hE 69 (by decide)).symm)) (congrArg Value.ref (hE 90 (by decide)).symm)) (congrArg Value.ref (hE 95 (by decide)).symm)) (congrArg Value.ref (hE 109 (by decide)).symm))
