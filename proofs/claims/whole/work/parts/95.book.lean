theorem con_X4_69 {l : Launch} {E : EE} {B0 : Nat} (hE : HE E B0) : CON l E B0 mX4_init 4 (RX4, TX4, 8) tyX4 69 21 20 4236 4 := by
  refine CON.ofW hE (by decide +kernel) rfl rfl (by decide) ?_
  intro p e s m args below meth c lr he hC0 hL
  have ha := lv_at hL 0 rfl
  have hz := hL.1
  have hx := he.1
  have hb := he.2.1
  have hlo0 : LO B0 [] := fun q hq => by cases hq
  refine C_obj he (in_place 231 (by decide +kernel) rfl) oi_in oi_co hz dX4_init_0 dX4_init_1 ha (by decide) (by decide) ?_
  refine lv_aload_n hx hb dX4_init_4 rfl ha ?_
  refine C_new (n := 4) (N := 70) (cells' := 4) (slots' := 3010) he hC0 hlo0 cl_8 tyX8_ok (in_place 232 (by decide +kernel) rfl) (in_place 233 (by decide +kernel) rfl) (in_place 74 (by decide +kernel) rfl) dX4_init_5 dX4_init_8 dX4_init_9 (con_X8_70 hE) m0_X8_init rfl rfl (in_place 235 (by decide +kernel) rfl) (Or.inr ⟨"StoreRealm", List.mem_of_getElem? (i := 4) (by decide +kernel)⟩) hz (by show 1 ≤ 7; decide) (by decide) (by decide) rfl (by decide) rfl (by decide) (by decide) (by decide) (fun _ _ _ => rfl) ?_
  intro H1 locs1 hC1 hlo1
  refine C_put (N := 74) (ty := .object "StoreRealm$Tokens") he hC1 hlo1 (by decide) dX4_init_12 cl_4 fl_X4_12 rfl (by decide +kernel) ⟨rfl, rfl⟩ ?_
  intro H2 locs2 hC2 hlo2
  refine lv_aload_n hx hb dX4_init_15 rfl ha ?_
  refine C_new (n := 9) (N := 74) (cells' := 12) (slots' := 3623) he hC2 hlo2 cl_5 tyX5_ok (in_place 257 (by decide +kernel) rfl) (in_place 258 (by decide +kernel) rfl) (in_place 75 (by decide +kernel) rfl) dX4_init_16 dX4_init_19 dX4_init_20 (con_X5_74 hE) m0_X5_init rfl rfl (in_place 260 (by decide +kernel) rfl) (Or.inr ⟨"StoreRealm", List.mem_of_getElem? (i := 5) (by decide +kernel)⟩) hz (by show 1 ≤ 7; decide) (by decide) (by decide) rfl (by decide) rfl (by decide) (by decide) (by decide) (fun _ _ _ => rfl) ?_
  intro H3 locs3 hC3 hlo3
  refine C_put (N := 82) (ty := .object "StoreRealm$Orders") he hC3 hlo3 (by decide) dX4_init_23 cl_4 fl_X4_21 rfl (by decide +kernel) ⟨rfl, rfl⟩ ?_
  intro H4 locs4 hC4 hlo4
  refine lv_aload_n hx hb dX4_init_26 rfl ha ?_
  refine C_new (n := 9) (N := 82) (cells' := 20) (slots' := 4236) he hC4 hlo4 cl_5 tyX5_ok (in_place 257 (by decide +kernel) rfl) (in_place 258 (by decide +kernel) rfl) (in_place 75 (by decide +kernel) rfl) dX4_init_27 dX4_init_30 dX4_init_31 (con_X5_82 hE) m0_X5_init rfl rfl (in_place 260 (by decide +kernel) rfl) (Or.inr ⟨"StoreRealm", List.mem_of_getElem? (i := 5) (by decide +kernel)⟩) hz (by show 1 ≤ 7; decide) (by decide) (by decide) rfl (by decide) rfl (by decide) (by decide) (by decide) (fun _ _ _ => rfl) ?_
  intro H5 locs5 hC5 hlo5
  refine C_put (N := 90) (ty := .object "StoreRealm$Orders") he hC5 hlo5 (by decide) dX4_init_34 cl_4 fl_X4_25 rfl (by decide +kernel) ⟨rfl, rfl⟩ ?_
  intro H6 locs6 hC6 hlo6
  refine lv_aload_n hx hb dX4_init_37 rfl ha ?_
  refine lv_iconst hx hb dX4_init_38 (v := (-1)) rfl ?_
  refine C_put (N := 90) (ty := .int) he hC6 hlo6 (by decide) dX4_init_39 cl_4 fl_X4_28 rfl (by decide +kernel) ⟨rfl, rfl⟩ ?_
  intro H7 locs7 hC7 hlo7
  exact C_end (N := 90) he hC7 hlo7 (by decide) rfl dX4_init_42 rfl rfl rfl (fun _ _ _ => rfl) (f_s (f_s (f_s (f_s (f_s (f_s (f_s (f_s f_0 (congrArg Value.ref (hE 70 (by decide)).symm)) rfl) rfl) rfl) (congrArg Value.ref (hE 74 (by decide)).symm)) (congrArg Value.ref (hE 82 (by decide)).symm)) rfl) rfl)
