/-! the start: the constructors -/
theorem oi_in : Cond.instanceMethod Lib.objectInit ∈ WALL := in_place 91 (by decide +kernel) rfl
theorem oi_co : Cond.code Lib.objectInit ⟨#[0xb1]⟩ 1 none ∈ WALL := in_place 92 (by decide +kernel) rfl
theorem m0_X0_init : ML0 mX0_init 0 := ⟨in_place 204 (by decide +kernel) rfl, in_place 72 (by decide +kernel) rfl, ⟨by decide +kernel, by decide +kernel, by decide +kernel⟩, by decide +kernel, by decide⟩
theorem m0_X1_init : ML0 mX1_init 0 := ⟨in_place 329 (by decide +kernel) rfl, in_place 76 (by decide +kernel) rfl, ⟨by decide +kernel, by decide +kernel, by decide +kernel⟩, by decide +kernel, by decide⟩
theorem m0_X2_init : ML0 mX2_init 0 := ⟨in_place 97 (by decide +kernel) rfl, in_place 68 (by decide +kernel) rfl, ⟨by decide +kernel, by decide +kernel, by decide +kernel⟩, by decide +kernel, by decide⟩
theorem m0_X3_init : ML0 mX3_init 0 := ⟨in_place 417 (by decide +kernel) rfl, in_place 78 (by decide +kernel) rfl, ⟨by decide +kernel, by decide +kernel, by decide +kernel⟩, by decide +kernel, by decide⟩
theorem m0_X4_init : ML0 mX4_init 0 := ⟨in_place 230 (by decide +kernel) rfl, in_place 73 (by decide +kernel) rfl, ⟨by decide +kernel, by decide +kernel, by decide +kernel⟩, by decide +kernel, by decide⟩
theorem m0_X5_init : ML0 mX5_init 0 := ⟨in_place 261 (by decide +kernel) rfl, in_place 75 (by decide +kernel) rfl, ⟨by decide +kernel, by decide +kernel, by decide +kernel⟩, by decide +kernel, by decide⟩
theorem m0_X6_init : ML0 mX6_init 0 := ⟨in_place 357 (by decide +kernel) rfl, in_place 77 (by decide +kernel) rfl, ⟨by decide +kernel, by decide +kernel, by decide +kernel⟩, by decide +kernel, by decide⟩
theorem m0_X7_init : ML0 mX7_init 0 := ⟨in_place 180 (by decide +kernel) rfl, in_place 71 (by decide +kernel) rfl, ⟨by decide +kernel, by decide +kernel, by decide +kernel⟩, by decide +kernel, by decide⟩
theorem m0_X8_init : ML0 mX8_init 0 := ⟨in_place 236 (by decide +kernel) rfl, in_place 74 (by decide +kernel) rfl, ⟨by decide +kernel, by decide +kernel, by decide +kernel⟩, by decide +kernel, by decide⟩
theorem m0_X9_init : ML0 mX9_init 0 := ⟨in_place 106 (by decide +kernel) rfl, in_place 69 (by decide +kernel) rfl, ⟨by decide +kernel, by decide +kernel, by decide +kernel⟩, by decide +kernel, by decide⟩
theorem m0_X10_init : ML0 mX10_init 0 := ⟨in_place 89 (by decide +kernel) rfl, in_place 67 (by decide +kernel) rfl, ⟨by decide +kernel, by decide +kernel, by decide +kernel⟩, by decide +kernel, by decide⟩
theorem m0_X11_init : ML0 mX11_init 0 := ⟨in_place 929 (by decide +kernel) rfl, in_place 79 (by decide +kernel) rfl, ⟨by decide +kernel, by decide +kernel, by decide +kernel⟩, by decide +kernel, by decide⟩
theorem con_X0_62 {l : Launch} {E : EE} {B0 : Nat} (hE : HE E B0) : CON l E B0 mX0_init 0 (RX0, TX0, 6) tyX0 62 6 5 300 2 := by
  refine CON.ofW hE (by decide +kernel) rfl rfl (by decide) ?_
  intro p e s m args below meth c lr he hC0 hL
  have ha := lv_at hL 0 rfl
  have hz := hL.1
  have hx := he.1
  have hb := he.2.1
  have hlo0 : LO B0 [] := fun q hq => by cases hq
  refine C_obj he (in_place 205 (by decide +kernel) rfl) oi_in oi_co hz dX0_init_0 dX0_init_1 ha (by decide) (by decide) ?_
  refine lv_aload_n hx hb dX0_init_4 rfl ha ?_
  refine lv_bipush hx hb dX0_init_5 (v := 60) rfl ?_
  refine C_ap (N := 63) (t := 0) (n := 60) (cells' := 1) (slots' := 60) (ty := .array .int) he hC0 hlo0 (by decide) dX0_init_7 dX0_init_9 cl_0 fl_X0_9 rfl (by decide +kernel) (fun _ => ⟨rfl, rfl⟩) rfl (by decide) ac_0 rfl (by decide) (by decide) (by decide) (by decide) rfl rfl (fun _ => rfl) rfl rfl (by decide) rfl (by decide) ?_
  intro H1 locs1 hC1 hlo1
  refine lv_aload_n hx hb dX0_init_12 rfl ha ?_
  refine lv_bipush hx hb dX0_init_13 (v := 60) rfl ?_
  refine C_ap (N := 64) (t := 0) (n := 60) (cells' := 2) (slots' := 120) (ty := .array .int) he hC1 hlo1 (by decide) dX0_init_15 dX0_init_17 cl_0 fl_X0_15 rfl (by decide +kernel) (fun _ => ⟨rfl, rfl⟩) rfl (by decide) ac_0 rfl (by decide) (by decide) (by decide) (by decide) rfl rfl (fun _ => rfl) rfl rfl (by decide) rfl (by decide) ?_
  intro H2 locs2 hC2 hlo2
  refine lv_aload_n hx hb dX0_init_20 rfl ha ?_
  refine lv_bipush hx hb dX0_init_21 (v := 60) rfl ?_
  refine C_ap (N := 65) (t := 0) (n := 60) (cells' := 3) (slots' := 180) (ty := .array .int) he hC2 hlo2 (by decide) dX0_init_23 dX0_init_25 cl_0 fl_X0_18 rfl (by decide +kernel) (fun _ => ⟨rfl, rfl⟩) rfl (by decide) ac_0 rfl (by decide) (by decide) (by decide) (by decide) rfl rfl (fun _ => rfl) rfl rfl (by decide) rfl (by decide) ?_
  intro H3 locs3 hC3 hlo3
  refine lv_aload_n hx hb dX0_init_28 rfl ha ?_
  refine lv_bipush hx hb dX0_init_29 (v := 60) rfl ?_
  refine C_ap (N := 66) (t := 0) (n := 60) (cells' := 4) (slots' := 240) (ty := .array .int) he hC3 hlo3 (by decide) dX0_init_31 dX0_init_33 cl_0 fl_X0_21 rfl (by decide +kernel) (fun _ => ⟨rfl, rfl⟩) rfl (by decide) ac_0 rfl (by decide) (by decide) (by decide) (by decide) rfl rfl (fun _ => rfl) rfl rfl (by decide) rfl (by decide) ?_
  intro H4 locs4 hC4 hlo4
  refine lv_aload_n hx hb dX0_init_36 rfl ha ?_
  refine lv_bipush hx hb dX0_init_37 (v := 60) rfl ?_
  refine C_ap (N := 67) (t := 0) (n := 60) (cells' := 5) (slots' := 300) (ty := .array .int) he hC4 hlo4 (by decide) dX0_init_39 dX0_init_41 cl_0 fl_X0_24 rfl (by decide +kernel) (fun _ => ⟨rfl, rfl⟩) rfl (by decide) ac_0 rfl (by decide) (by decide) (by decide) (by decide) rfl rfl (fun _ => rfl) rfl rfl (by decide) rfl (by decide) ?_
  intro H5 locs5 hC5 hlo5
  exact C_end (N := 68) he hC5 hlo5 (by decide) rfl dX0_init_44 rfl rfl rfl (fun _ _ _ => rfl) (f_s (f_s (f_s (f_s (f_s (f_s f_0 (congrArg Value.ref (hE 63 (by decide)).symm)) (congrArg Value.ref (hE 64 (by decide)).symm)) (congrArg Value.ref (hE 65 (by decide)).symm)) (congrArg Value.ref (hE 66 (by decide)).symm)) (congrArg Value.ref (hE 67 (by decide)).symm)) rfl)
theorem con_X1_90 {l : Launch} {E : EE} {B0 : Nat} (hE : HE E B0) : CON l E B0 mX1_init 1 (RX1, TX1, 5) tyX1 90 5 4 40 2 := by
  refine CON.ofW hE (by decide +kernel) rfl rfl (by decide) ?_
  intro p e s m args below meth c lr he hC0 hL
  have ha := lv_at hL 0 rfl
  have hz := hL.1
  have hx := he.1
  have hb := he.2.1
  have hlo0 : LO B0 [] := fun q hq => by cases hq
  refine C_obj he (in_place 330 (by decide +kernel) rfl) oi_in oi_co hz dX1_init_0 dX1_init_1 ha (by decide) (by decide) ?_
  refine lv_aload_n hx hb dX1_init_4 rfl ha ?_
  refine lv_bipush hx hb dX1_init_5 (v := 10) rfl ?_
  refine C_ap (N := 91) (t := 0) (n := 10) (cells' := 1) (slots' := 10) (ty := .array .int) he hC0 hlo0 (by decide) dX1_init_7 dX1_init_9 cl_1 fl_X1_9 rfl (by decide +kernel) (fun _ => ⟨rfl, rfl⟩) rfl (by decide) ac_0 rfl (by decide) (by decide) (by decide) (by decide) rfl rfl (fun _ => rfl) rfl rfl (by decide) rfl (by decide) ?_
  intro H1 locs1 hC1 hlo1
  refine lv_aload_n hx hb dX1_init_12 rfl ha ?_
  refine lv_bipush hx hb dX1_init_13 (v := 10) rfl ?_
  refine C_ap (N := 92) (t := 0) (n := 10) (cells' := 2) (slots' := 20) (ty := .array .int) he hC1 hlo1 (by decide) dX1_init_15 dX1_init_17 cl_1 fl_X1_15 rfl (by decide +kernel) (fun _ => ⟨rfl, rfl⟩) rfl (by decide) ac_0 rfl (by decide) (by decide) (by decide) (by decide) rfl rfl (fun _ => rfl) rfl rfl (by decide) rfl (by decide) ?_
  intro H2 locs2 hC2 hlo2
  refine lv_aload_n hx hb dX1_init_20 rfl ha ?_
  refine lv_bipush hx hb dX1_init_21 (v := 10) rfl ?_
  refine C_ap (N := 93) (t := 0) (n := 10) (cells' := 3) (slots' := 30) (ty := .array .int) he hC2 hlo2 (by decide) dX1_init_23 dX1_init_25 cl_1 fl_X1_18 rfl (by decide +kernel) (fun _ => ⟨rfl, rfl⟩) rfl (by decide) ac_0 rfl (by decide) (by decide) (by decide) (by decide) rfl rfl (fun _ => rfl) rfl rfl (by decide) rfl (by decide) ?_
  intro H3 locs3 hC3 hlo3
  refine lv_aload_n hx hb dX1_init_28 rfl ha ?_
  refine lv_bipush hx hb dX1_init_29 (v := 10) rfl ?_
  refine C_ap (N := 94) (t := 0) (n := 10) (cells' := 4) (slots' := 40) (ty := .array .int) he hC3 hlo3 (by decide) dX1_init_31 dX1_init_33 cl_1 fl_X1_21 rfl (by decide +kernel) (fun _ => ⟨rfl, rfl⟩) rfl (by decide) ac_0 rfl (by decide) (by decide) (by decide) (by decide) rfl rfl (fun _ => rfl) rfl rfl (by decide) rfl (by decide) ?_
  intro H4 locs4 hC4 hlo4
  exact C_end (N := 95) he hC4 hlo4 (by decide) rfl dX1_init_36 rfl rfl rfl (fun _ _ _ => rfl) (f_s (f_s (f_s (f_s (f_s f_0 (congrArg Value.ref (hE 91 (by decide)).symm)) (congrArg Value.ref (hE 92 (by decide)).symm)) (congrArg Value.ref (hE 93 (by decide)).symm)) (congrArg Value.ref (hE 94 (by decide)).symm)) rfl)
theorem con_X3_109 {l : Launch} {E : EE} {B0 : Nat} (hE : HE E B0) : CON l E B0 mX3_init 3 (RX3, TX3, 10) tyX3 109 8 7 365 2 := by
  refine CON.ofW hE (by decide +kernel) rfl rfl (by decide) ?_
  intro p e s m args below meth c lr he hC0 hL
  have ha := lv_at hL 0 rfl
  have hz := hL.1
  have hx := he.1
  have hb := he.2.1
  have hlo0 : LO B0 [] := fun q hq => by cases hq
  refine C_obj he (in_place 418 (by decide +kernel) rfl) oi_in oi_co hz dX3_init_0 dX3_init_1 ha (by decide) (by decide) ?_
  refine lv_aload_n hx hb dX3_init_4 rfl ha ?_
  refine lv_bipush hx hb dX3_init_5 (v := 60) rfl ?_
  refine C_ap (N := 110) (t := 0) (n := 60) (cells' := 1) (slots' := 60) (ty := .array .int) he hC0 hlo0 (by decide) dX3_init_7 dX3_init_9 cl_3 fl_X3_9 rfl (by decide +kernel) (fun _ => ⟨rfl, rfl⟩) rfl (by decide) ac_0 rfl (by decide) (by decide) (by decide) (by decide) rfl rfl (fun _ => rfl) rfl rfl (by decide) rfl (by decide) ?_
  intro H1 locs1 hC1 hlo1
  refine lv_aload_n hx hb dX3_init_12 rfl ha ?_
  refine lv_bipush hx hb dX3_init_13 (v := 60) rfl ?_
  refine C_ap (N := 111) (t := 0) (n := 60) (cells' := 2) (slots' := 120) (ty := .array .int) he hC1 hlo1 (by decide) dX3_init_15 dX3_init_17 cl_3 fl_X3_15 rfl (by decide +kernel) (fun _ => ⟨rfl, rfl⟩) rfl (by decide) ac_0 rfl (by decide) (by decide) (by decide) (by decide) rfl rfl (fun _ => rfl) rfl rfl (by decide) rfl (by decide) ?_
  intro H2 locs2 hC2 hlo2
  refine lv_aload_n hx hb dX3_init_20 rfl ha ?_
  refine lv_bipush hx hb dX3_init_21 (v := 60) rfl ?_
  refine C_ap (N := 112) (t := 0) (n := 60) (cells' := 3) (slots' := 180) (ty := .array .int) he hC2 hlo2 (by decide) dX3_init_23 dX3_init_25 cl_3 fl_X3_18 rfl (by decide +kernel) (fun _ => ⟨rfl, rfl⟩) rfl (by decide) ac_0 rfl (by decide) (by decide) (by decide) (by decide) rfl rfl (fun _ => rfl) rfl rfl (by decide) rfl (by decide) ?_
  intro H3 locs3 hC3 hlo3
  refine lv_aload_n hx hb dX3_init_28 rfl ha ?_
  refine lv_bipush hx hb dX3_init_29 (v := 60) rfl ?_
  refine C_ap (N := 113) (t := 0) (n := 60) (cells' := 4) (slots' := 240) (ty := .array .int) he hC3 hlo3 (by decide) dX3_init_31 dX3_init_33 cl_3 fl_X3_21 rfl (by decide +kernel) (fun _ => ⟨rfl, rfl⟩) rfl (by decide) ac_0 rfl (by decide) (by decide) (by decide) (by decide) rfl rfl (fun _ => rfl) rfl rfl (by decide) rfl (by decide) ?_
  intro H4 locs4 hC4 hlo4
  refine lv_aload_n hx hb dX3_init_36 rfl ha ?_
  refine lv_bipush hx hb dX3_init_37 (v := 60) rfl ?_
  refine C_ap (N := 114) (t := 0) (n := 60) (cells' := 5) (slots' := 300) (ty := .array .int) he hC4 hlo4 (by decide) dX3_init_39 dX3_init_41 cl_3 fl_X3_24 rfl (by decide +kernel) (fun _ => ⟨rfl, rfl⟩) rfl (by decide) ac_0 rfl (by decide) (by decide) (by decide) (by decide) rfl rfl (fun _ => rfl) rfl rfl (by decide) rfl (by decide) ?_
  intro H5 locs5 hC5 hlo5
  refine lv_aload_n hx hb dX3_init_44 rfl ha ?_
  refine lv_bipush hx hb dX3_init_45 (v := 60) rfl ?_
  refine C_ap (N := 115) (t := 0) (n := 60) (cells' := 6) (slots' := 360) (ty := .array .int) he hC5 hlo5 (by decide) dX3_init_47 dX3_init_49 cl_3 fl_X3_27 rfl (by decide +kernel) (fun _ => ⟨rfl, rfl⟩) rfl (by decide) ac_0 rfl (by decide) (by decide) (by decide) (by decide) rfl rfl (fun _ => rfl) rfl rfl (by decide) rfl (by decide) ?_
  intro H6 locs6 hC6 hlo6
  refine lv_aload_n hx hb dX3_init_52 rfl ha ?_
  refine lv_iconst hx hb dX3_init_53 (v := 5) rfl ?_
  refine C_ap (N := 116) (t := 0) (n := 5) (cells' := 7) (slots' := 365) (ty := .array .int) he hC6 hlo6 (by decide) dX3_init_54 dX3_init_56 cl_3 fl_X3_30 rfl (by decide +kernel) (fun _ => ⟨rfl, rfl⟩) rfl (by decide) ac_0 rfl (by decide) (by decide) (by decide) (by decide) rfl rfl (fun _ => rfl) rfl rfl (by decide) rfl (by decide) ?_
  intro H7 locs7 hC7 hlo7
  refine lv_aload_n hx hb dX3_init_59 rfl ha ?_
  refine lv_iconst hx hb dX3_init_60 (v := (-1)) rfl ?_
  refine C_put (N := 117) (ty := .int) he hC7 hlo7 (by decide) dX3_init_61 cl_3 fl_X3_33 rfl (by decide +kernel) ⟨rfl, rfl⟩ ?_
  intro H8 locs8 hC8 hlo8
  exact C_end (N := 117) he hC8 hlo8 (by decide) rfl dX3_init_64 rfl rfl rfl (fun _ _ _ => rfl) (f_s (f_s (f_s (f_s (f_s (f_s (f_s (f_s (f_s (f_s f_0 (congrArg Value.ref (hE 110 (by decide)).symm)) (congrArg Value.ref (hE 111 (by decide)).symm)) (congrArg Value.ref (hE 112 (by decide)).symm)) (congrArg Value.ref (hE 113 (by decide)).symm)) (congrArg Value.ref (hE 114 (by decide)).symm)) (congrArg Value.ref (hE 115 (by decide)).symm)) rfl) (congrArg Value.ref (hE 116 (by decide)).symm)) rfl) rfl)
theorem con_X5_74 {l : Launch} {E : EE} {B0 : Nat} (hE : HE E B0) : CON l E B0 mX5_init 5 (RX5, TX5, 9) tyX5 74 8 7 604 2 := by
  refine CON.ofW hE (by decide +kernel) rfl rfl (by decide) ?_
  intro p e s m args below meth c lr he hC0 hL
  have ha := lv_at hL 0 rfl
  have hz := hL.1
  have hx := he.1
  have hb := he.2.1
  have hlo0 : LO B0 [] := fun q hq => by cases hq
  refine C_obj he (in_place 262 (by decide +kernel) rfl) oi_in oi_co hz dX5_init_0 dX5_init_1 ha (by decide) (by decide) ?_
  refine lv_aload_n hx hb dX5_init_4 rfl ha ?_
  refine lv_sipush hx hb dX5_init_5 (v := 512) rfl ?_
  refine C_ap (N := 75) (t := 0) (n := 512) (cells' := 1) (slots' := 512) (ty := .array .int) he hC0 hlo0 (by decide) dX5_init_8 dX5_init_10 cl_5 fl_X5_11 rfl (by decide +kernel) (fun _ => ⟨rfl, rfl⟩) rfl (by decide) ac_0 rfl (by decide) (by decide) (by decide) (by decide) rfl rfl (fun _ => rfl) rfl rfl (by decide) rfl (by decide) ?_
  intro H1 locs1 hC1 hlo1
  refine lv_aload_n hx hb dX5_init_13 rfl ha ?_
  refine lv_bipush hx hb dX5_init_14 (v := 32) rfl ?_
  refine C_ap (N := 76) (t := 0) (n := 32) (cells' := 2) (slots' := 544) (ty := .array .int) he hC1 hlo1 (by decide) dX5_init_16 dX5_init_18 cl_5 fl_X5_15 rfl (by decide +kernel) (fun _ => ⟨rfl, rfl⟩) rfl (by decide) ac_0 rfl (by decide) (by decide) (by decide) (by decide) rfl rfl (fun _ => rfl) rfl rfl (by decide) rfl (by decide) ?_
  intro H2 locs2 hC2 hlo2
  refine lv_aload_n hx hb dX5_init_21 rfl ha ?_
  refine lv_bipush hx hb dX5_init_22 (v := 12) rfl ?_
  refine C_ap (N := 77) (t := 0) (n := 12) (cells' := 3) (slots' := 556) (ty := .array .int) he hC2 hlo2 (by decide) dX5_init_24 dX5_init_26 cl_5 fl_X5_18 rfl (by decide +kernel) (fun _ => ⟨rfl, rfl⟩) rfl (by decide) ac_0 rfl (by decide) (by decide) (by decide) (by decide) rfl rfl (fun _ => rfl) rfl rfl (by decide) rfl (by decide) ?_
  intro H3 locs3 hC3 hlo3
  refine lv_aload_n hx hb dX5_init_29 rfl ha ?_
  refine lv_bipush hx hb dX5_init_30 (v := 12) rfl ?_
  refine C_ap (N := 78) (t := 0) (n := 12) (cells' := 4) (slots' := 568) (ty := .array .int) he hC3 hlo3 (by decide) dX5_init_32 dX5_init_34 cl_5 fl_X5_21 rfl (by decide +kernel) (fun _ => ⟨rfl, rfl⟩) rfl (by decide) ac_0 rfl (by decide) (by decide) (by decide) (by decide) rfl rfl (fun _ => rfl) rfl rfl (by decide) rfl (by decide) ?_
  intro H4 locs4 hC4 hlo4
  refine lv_aload_n hx hb dX5_init_37 rfl ha ?_
  refine lv_bipush hx hb dX5_init_38 (v := 12) rfl ?_
  refine C_ap (N := 79) (t := 0) (n := 12) (cells' := 5) (slots' := 580) (ty := .array .int) he hC4 hlo4 (by decide) dX5_init_40 dX5_init_42 cl_5 fl_X5_24 rfl (by decide +kernel) (fun _ => ⟨rfl, rfl⟩) rfl (by decide) ac_0 rfl (by decide) (by decide) (by decide) (by decide) rfl rfl (fun _ => rfl) rfl rfl (by decide) rfl (by decide) ?_
  intro H5 locs5 hC5 hlo5
  refine lv_aload_n hx hb dX5_init_45 rfl ha ?_
  refine lv_bipush hx hb dX5_init_46 (v := 12) rfl ?_
  refine C_ap (N := 80) (t := 0) (n := 12) (cells' := 6) (slots' := 592) (ty := .array .int) he hC5 hlo5 (by decide) dX5_init_48 dX5_init_50 cl_5 fl_X5_27 rfl (by decide +kernel) (fun _ => ⟨rfl, rfl⟩) rfl (by decide) ac_0 rfl (by decide) (by decide) (by decide) (by decide) rfl rfl (fun _ => rfl) rfl rfl (by decide) rfl (by decide) ?_
  intro H6 locs6 hC6 hlo6
  refine lv_aload_n hx hb dX5_init_53 rfl ha ?_
  refine lv_bipush hx hb dX5_init_54 (v := 12) rfl ?_
  refine C_ap (N := 81) (t := 0) (n := 12) (cells' := 7) (slots' := 604) (ty := .array .int) he hC6 hlo6 (by decide) dX5_init_56 dX5_init_58 cl_5 fl_X5_30 rfl (by decide +kernel) (fun _ => ⟨rfl, rfl⟩) rfl (by decide) ac_0 rfl (by decide) (by decide) (by decide) (by decide) rfl rfl (fun _ => rfl) rfl rfl (by decide) rfl (by decide) ?_
  intro H7 locs7 hC7 hlo7
  exact C_end (N := 82) he hC7 hlo7 (by decide) rfl dX5_init_61 rfl rfl rfl (fun _ _ _ => rfl) (f_s (f_s (f_s (f_s (f_s (f_s (f_s (f_s (f_s f_0 (congrArg Value.ref (hE 75 (by decide)).symm)) rfl) (congrArg Value.ref (hE 76 (by decide)).symm)) rfl) (congrArg Value.ref (hE 77 (by decide)).symm)) (congrArg Value.ref (hE 78 (by decide)).symm)) (congrArg Value.ref (hE 79 (by decide)).symm)) (congrArg Value.ref (hE 80 (by decide)).symm)) (congrArg Value.ref (hE 81 (by decide)).symm))
theorem con_X5_82 {l : Launch} {E : EE} {B0 : Nat} (hE : HE E B0) : CON l E B0 mX5_init 5 (RX5, TX5, 9) tyX5 82 8 7 604 2 := by
  refine CON.ofW hE (by decide +kernel) rfl rfl (by decide) ?_
  intro p e s m args below meth c lr he hC0 hL
  have ha := lv_at hL 0 rfl
  have hz := hL.1
  have hx := he.1
  have hb := he.2.1
  have hlo0 : LO B0 [] := fun q hq => by cases hq
  refine C_obj he (in_place 262 (by decide +kernel) rfl) oi_in oi_co hz dX5_init_0 dX5_init_1 ha (by decide) (by decide) ?_
  refine lv_aload_n hx hb dX5_init_4 rfl ha ?_
  refine lv_sipush hx hb dX5_init_5 (v := 512) rfl ?_
  refine C_ap (N := 83) (t := 0) (n := 512) (cells' := 1) (slots' := 512) (ty := .array .int) he hC0 hlo0 (by decide) dX5_init_8 dX5_init_10 cl_5 fl_X5_11 rfl (by decide +kernel) (fun _ => ⟨rfl, rfl⟩) rfl (by decide) ac_0 rfl (by decide) (by decide) (by decide) (by decide) rfl rfl (fun _ => rfl) rfl rfl (by decide) rfl (by decide) ?_
  intro H1 locs1 hC1 hlo1
  refine lv_aload_n hx hb dX5_init_13 rfl ha ?_
  refine lv_bipush hx hb dX5_init_14 (v := 32) rfl ?_
  refine C_ap (N := 84) (t := 0) (n := 32) (cells' := 2) (slots' := 544) (ty := .array .int) he hC1 hlo1 (by decide) dX5_init_16 dX5_init_18 cl_5 fl_X5_15 rfl (by decide +kernel) (fun _ => ⟨rfl, rfl⟩) rfl (by decide) ac_0 rfl (by decide) (by decide) (by decide) (by decide) rfl rfl (fun _ => rfl) rfl rfl (by decide) rfl (by decide) ?_
  intro H2 locs2 hC2 hlo2
  refine lv_aload_n hx hb dX5_init_21 rfl ha ?_
  refine lv_bipush hx hb dX5_init_22 (v := 12) rfl ?_
  refine C_ap (N := 85) (t := 0) (n := 12) (cells' := 3) (slots' := 556) (ty := .array .int) he hC2 hlo2 (by decide) dX5_init_24 dX5_init_26 cl_5 fl_X5_18 rfl (by decide +kernel) (fun _ => ⟨rfl, rfl⟩) rfl (by decide) ac_0 rfl (by decide) (by decide) (by decide) (by decide) rfl rfl (fun _ => rfl) rfl rfl (by decide) rfl (by decide) ?_
  intro H3 locs3 hC3 hlo3
  refine lv_aload_n hx hb dX5_init_29 rfl ha ?_
  refine lv_bipush hx hb dX5_init_30 (v := 12) rfl ?_
  refine C_ap (N := 86) (t := 0) (n := 12) (cells' := 4) (slots' := 568) (ty := .array .int) he hC3 hlo3 (by decide) dX5_init_32 dX5_init_34 cl_5 fl_X5_21 rfl (by decide +kernel) (fun _ => ⟨rfl, rfl⟩) rfl (by decide) ac_0 rfl (by decide) (by decide) (by decide) (by decide) rfl rfl (fun _ => rfl) rfl rfl (by decide) rfl (by decide) ?_
  intro H4 locs4 hC4 hlo4
  refine lv_aload_n hx hb dX5_init_37 rfl ha ?_
  refine lv_bipush hx hb dX5_init_38 (v := 12) rfl ?_
  refine C_ap (N := 87) (t := 0) (n := 12) (cells' := 5) (slots' := 580) (ty := .array .int) he hC4 hlo4 (by decide) dX5_init_40 dX5_init_42 cl_5 fl_X5_24 rfl (by decide +kernel) (fun _ => ⟨rfl, rfl⟩) rfl (by decide) ac_0 rfl (by decide) (by decide) (by decide) (by decide) rfl rfl (fun _ => rfl) rfl rfl (by decide) rfl (by decide) ?_
  intro H5 locs5 hC5 hlo5
  refine lv_aload_n hx hb dX5_init_45 rfl ha ?_
  refine lv_bipush hx hb dX5_init_46 (v := 12) rfl ?_
  refine C_ap (N := 88) (t := 0) (n := 12) (cells' := 6) (slots' := 592) (ty := .array .int) he hC5 hlo5 (by decide) dX5_init_48 dX5_init_50 cl_5 fl_X5_27 rfl (by decide +kernel) (fun _ => ⟨rfl, rfl⟩) rfl (by decide) ac_0 rfl (by decide) (by decide) (by decide) (by decide) rfl rfl (fun _ => rfl) rfl rfl (by decide) rfl (by decide) ?_
  intro H6 locs6 hC6 hlo6
  refine lv_aload_n hx hb dX5_init_53 rfl ha ?_
  refine lv_bipush hx hb dX5_init_54 (v := 12) rfl ?_
  refine C_ap (N := 89) (t := 0) (n := 12) (cells' := 7) (slots' := 604) (ty := .array .int) he hC6 hlo6 (by decide) dX5_init_56 dX5_init_58 cl_5 fl_X5_30 rfl (by decide +kernel) (fun _ => ⟨rfl, rfl⟩) rfl (by decide) ac_0 rfl (by decide) (by decide) (by decide) (by decide) rfl rfl (fun _ => rfl) rfl rfl (by decide) rfl (by decide) ?_
  intro H7 locs7 hC7 hlo7
  exact C_end (N := 90) he hC7 hlo7 (by decide) rfl dX5_init_61 rfl rfl rfl (fun _ _ _ => rfl) (f_s (f_s (f_s (f_s (f_s (f_s (f_s (f_s (f_s f_0 (congrArg Value.ref (hE 83 (by decide)).symm)) rfl) (congrArg Value.ref (hE 84 (by decide)).symm)) rfl) (congrArg Value.ref (hE 85 (by decide)).symm)) (congrArg Value.ref (hE 86 (by decide)).symm)) (congrArg Value.ref (hE 87 (by decide)).symm)) (congrArg Value.ref (hE 88 (by decide)).symm)) (congrArg Value.ref (hE 89 (by decide)).symm))
theorem con_X6_95 {l : Launch} {E : EE} {B0 : Nat} (hE : HE E B0) : CON l E B0 mX6_init 6 (RX6, TX6, 17) tyX6 95 14 13 2060 2 := by
  refine CON.ofW hE (by decide +kernel) rfl rfl (by decide) ?_
  intro p e s m args below meth c lr he hC0 hL
  have ha := lv_at hL 0 rfl
  have hz := hL.1
  have hx := he.1
  have hb := he.2.1
  have hlo0 : LO B0 [] := fun q hq => by cases hq
  refine C_obj he (in_place 358 (by decide +kernel) rfl) oi_in oi_co hz dX6_init_0 dX6_init_1 ha (by decide) (by decide) ?_
  refine lv_aload_n hx hb dX6_init_4 rfl ha ?_
  refine lv_bipush hx hb dX6_init_5 (v := 10) rfl ?_
  refine C_ap (N := 96) (t := 0) (n := 10) (cells' := 1) (slots' := 10) (ty := .array .int) he hC0 hlo0 (by decide) dX6_init_7 dX6_init_9 cl_6 fl_X6_9 rfl (by decide +kernel) (fun _ => ⟨rfl, rfl⟩) rfl (by decide) ac_0 rfl (by decide) (by decide) (by decide) (by decide) rfl rfl (fun _ => rfl) rfl rfl (by decide) rfl (by decide) ?_
  intro H1 locs1 hC1 hlo1
  refine lv_aload_n hx hb dX6_init_12 rfl ha ?_
  refine lv_bipush hx hb dX6_init_13 (v := 10) rfl ?_
  refine C_ap (N := 97) (t := 0) (n := 10) (cells' := 2) (slots' := 20) (ty := .array .int) he hC1 hlo1 (by decide) dX6_init_15 dX6_init_17 cl_6 fl_X6_15 rfl (by decide +kernel) (fun _ => ⟨rfl, rfl⟩) rfl (by decide) ac_0 rfl (by decide) (by decide) (by decide) (by decide) rfl rfl (fun _ => rfl) rfl rfl (by decide) rfl (by decide) ?_
  intro H2 locs2 hC2 hlo2
  refine lv_aload_n hx hb dX6_init_20 rfl ha ?_
  refine lv_bipush hx hb dX6_init_21 (v := 10) rfl ?_
  refine C_ap (N := 98) (t := 0) (n := 10) (cells' := 3) (slots' := 30) (ty := .array .int) he hC2 hlo2 (by decide) dX6_init_23 dX6_init_25 cl_6 fl_X6_18 rfl (by decide +kernel) (fun _ => ⟨rfl, rfl⟩) rfl (by decide) ac_0 rfl (by decide) (by decide) (by decide) (by decide) rfl rfl (fun _ => rfl) rfl rfl (by decide) rfl (by decide) ?_
  intro H3 locs3 hC3 hlo3
  refine lv_aload_n hx hb dX6_init_28 rfl ha ?_
  refine lv_bipush hx hb dX6_init_29 (v := 10) rfl ?_
  refine C_ap (N := 99) (t := 0) (n := 10) (cells' := 4) (slots' := 40) (ty := .array .int) he hC3 hlo3 (by decide) dX6_init_31 dX6_init_33 cl_6 fl_X6_21 rfl (by decide +kernel) (fun _ => ⟨rfl, rfl⟩) rfl (by decide) ac_0 rfl (by decide) (by decide) (by decide) (by decide) rfl rfl (fun _ => rfl) rfl rfl (by decide) rfl (by decide) ?_
  intro H4 locs4 hC4 hlo4
  refine lv_aload_n hx hb dX6_init_36 rfl ha ?_
  refine lv_bipush hx hb dX6_init_37 (v := 10) rfl ?_
  refine C_ap (N := 100) (t := 0) (n := 10) (cells' := 5) (slots' := 50) (ty := .array .int) he hC4 hlo4 (by decide) dX6_init_39 dX6_init_41 cl_6 fl_X6_24 rfl (by decide +kernel) (fun _ => ⟨rfl, rfl⟩) rfl (by decide) ac_0 rfl (by decide) (by decide) (by decide) (by decide) rfl rfl (fun _ => rfl) rfl rfl (by decide) rfl (by decide) ?_
  intro H5 locs5 hC5 hlo5
  refine lv_aload_n hx hb dX6_init_44 rfl ha ?_
  refine lv_bipush hx hb dX6_init_45 (v := 10) rfl ?_
  refine C_ap (N := 101) (t := 0) (n := 10) (cells' := 6) (slots' := 60) (ty := .array .int) he hC5 hlo5 (by decide) dX6_init_47 dX6_init_49 cl_6 fl_X6_27 rfl (by decide +kernel) (fun _ => ⟨rfl, rfl⟩) rfl (by decide) ac_0 rfl (by decide) (by decide) (by decide) (by decide) rfl rfl (fun _ => rfl) rfl rfl (by decide) rfl (by decide) ?_
  intro H6 locs6 hC6 hlo6
  refine lv_aload_n hx hb dX6_init_52 rfl ha ?_
  refine lv_bipush hx hb dX6_init_53 (v := 80) rfl ?_
  refine C_ap (N := 102) (t := 0) (n := 80) (cells' := 7) (slots' := 140) (ty := .array .int) he hC6 hlo6 (by decide) dX6_init_55 dX6_init_57 cl_6 fl_X6_30 rfl (by decide +kernel) (fun _ => ⟨rfl, rfl⟩) rfl (by decide) ac_0 rfl (by decide) (by decide) (by decide) (by decide) rfl rfl (fun _ => rfl) rfl rfl (by decide) rfl (by decide) ?_
  intro H7 locs7 hC7 hlo7
  refine lv_aload_n hx hb dX6_init_60 rfl ha ?_
  refine lv_bipush hx hb dX6_init_61 (v := 80) rfl ?_
  refine C_ap (N := 103) (t := 0) (n := 80) (cells' := 8) (slots' := 220) (ty := .array .int) he hC7 hlo7 (by decide) dX6_init_63 dX6_init_65 cl_6 fl_X6_33 rfl (by decide +kernel) (fun _ => ⟨rfl, rfl⟩) rfl (by decide) ac_0 rfl (by decide) (by decide) (by decide) (by decide) rfl rfl (fun _ => rfl) rfl rfl (by decide) rfl (by decide) ?_
  intro H8 locs8 hC8 hlo8
  refine lv_aload_n hx hb dX6_init_68 rfl ha ?_
  refine lv_bipush hx hb dX6_init_69 (v := 80) rfl ?_
  refine C_ap (N := 104) (t := 0) (n := 80) (cells' := 9) (slots' := 300) (ty := .array .int) he hC8 hlo8 (by decide) dX6_init_71 dX6_init_73 cl_6 fl_X6_36 rfl (by decide +kernel) (fun _ => ⟨rfl, rfl⟩) rfl (by decide) ac_0 rfl (by decide) (by decide) (by decide) (by decide) rfl rfl (fun _ => rfl) rfl rfl (by decide) rfl (by decide) ?_
  intro H9 locs9 hC9 hlo9
  refine lv_aload_n hx hb dX6_init_76 rfl ha ?_
  refine lv_bipush hx hb dX6_init_77 (v := 80) rfl ?_
  refine C_ap (N := 105) (t := 0) (n := 80) (cells' := 10) (slots' := 380) (ty := .array .int) he hC9 hlo9 (by decide) dX6_init_79 dX6_init_81 cl_6 fl_X6_39 rfl (by decide +kernel) (fun _ => ⟨rfl, rfl⟩) rfl (by decide) ac_0 rfl (by decide) (by decide) (by decide) (by decide) rfl rfl (fun _ => rfl) rfl rfl (by decide) rfl (by decide) ?_
  intro H10 locs10 hC10 hlo10
  refine lv_aload_n hx hb dX6_init_84 rfl ha ?_
  refine lv_bipush hx hb dX6_init_85 (v := 80) rfl ?_
  refine C_ap (N := 106) (t := 0) (n := 80) (cells' := 11) (slots' := 460) (ty := .array .int) he hC10 hlo10 (by decide) dX6_init_87 dX6_init_89 cl_6 fl_X6_42 rfl (by decide +kernel) (fun _ => ⟨rfl, rfl⟩) rfl (by decide) ac_0 rfl (by decide) (by decide) (by decide) (by decide) rfl rfl (fun _ => rfl) rfl rfl (by decide) rfl (by decide) ?_
  intro H11 locs11 hC11 hlo11
  refine lv_aload_n hx hb dX6_init_92 rfl ha ?_
  refine lv_sipush hx hb dX6_init_93 (v := 800) rfl ?_
  refine C_ap (N := 107) (t := 0) (n := 800) (cells' := 12) (slots' := 1260) (ty := .array .int) he hC11 hlo11 (by decide) dX6_init_96 dX6_init_98 cl_6 fl_X6_45 rfl (by decide +kernel) (fun _ => ⟨rfl, rfl⟩) rfl (by decide) ac_0 rfl (by decide) (by decide) (by decide) (by decide) rfl rfl (fun _ => rfl) rfl rfl (by decide) rfl (by decide) ?_
  intro H12 locs12 hC12 hlo12
  refine lv_aload_n hx hb dX6_init_101 rfl ha ?_
  refine lv_sipush hx hb dX6_init_102 (v := 800) rfl ?_
  refine C_ap (N := 108) (t := 0) (n := 800) (cells' := 13) (slots' := 2060) (ty := .array .int) he hC12 hlo12 (by decide) dX6_init_105 dX6_init_107 cl_6 fl_X6_48 rfl (by decide +kernel) (fun _ => ⟨rfl, rfl⟩) rfl (by decide) ac_0 rfl (by decide) (by decide) (by decide) (by decide) rfl rfl (fun _ => rfl) rfl rfl (by decide) rfl (by decide) ?_
  intro H13 locs13 hC13 hlo13
  exact C_end (N := 109) he hC13 hlo13 (by decide) rfl dX6_init_110 rfl rfl rfl (fun _ _ _ => rfl) (f_s (f_s (f_s (f_s (f_s (f_s (f_s (f_s (f_s (f_s (f_s (f_s (f_s (f_s (f_s (f_s (f_s f_0 rfl) (congrArg Value.ref (hE 96 (by decide)).symm)) (congrArg Value.ref (hE 97 (by decide)).symm)) (congrArg Value.ref (hE 98 (by decide)).symm)) (congrArg Value.ref (hE 99 (by decide)).symm)) (congrArg Value.ref (hE 100 (by decide)).symm)) (congrArg Value.ref (hE 101 (by decide)).symm)) rfl) (congrArg Value.ref (hE 102 (by decide)).symm)) (congrArg Value.ref (hE 103 (by decide)).symm)) (congrArg Value.ref (hE 104 (by decide)).symm)) (congrArg Value.ref (hE 105 (by decide)).symm)) (congrArg Value.ref (hE 106 (by decide)).symm)) (congrArg Value.ref (hE 107 (by decide)).symm)) (congrArg Value.ref (hE 108 (by decide)).symm)) rfl) rfl)
theorem con_X7_61 {l : Launch} {E : EE} {B0 : Nat} (hE : HE E B0) : CON l E B0 mX7_init 7 (RX7, TX7, 4) tyX7 61 1 0 0 2 := by
  refine CON.ofW hE (by decide +kernel) rfl rfl (by decide) ?_
  intro p e s m args below meth c lr he hC0 hL
  have ha := lv_at hL 0 rfl
  have hz := hL.1
  have hx := he.1
  have hb := he.2.1
  have hlo0 : LO B0 [] := fun q hq => by cases hq
  refine C_obj he (in_place 181 (by decide +kernel) rfl) oi_in oi_co hz dX7_init_0 dX7_init_1 ha (by decide) (by decide) ?_
  exact C_end (N := 62) he hC0 hlo0 (by decide) rfl dX7_init_4 rfl rfl rfl (fun _ _ _ => rfl) (f_s (f_s (f_s (f_s f_0 rfl) rfl) rfl) rfl)
theorem con_X8_70 {l : Launch} {E : EE} {B0 : Nat} (hE : HE E B0) : CON l E B0 mX8_init 8 (RX8, TX8, 4) tyX8 70 4 3 3006 2 := by
  refine CON.ofW hE (by decide +kernel) rfl rfl (by decide) ?_
  intro p e s m args below meth c lr he hC0 hL
  have ha := lv_at hL 0 rfl
  have hz := hL.1
  have hx := he.1
  have hb := he.2.1
  have hlo0 : LO B0 [] := fun q hq => by cases hq
  refine C_obj he (in_place 237 (by decide +kernel) rfl) oi_in oi_co hz dX8_init_0 dX8_init_1 ha (by decide) (by decide) ?_
  refine lv_aload_n hx hb dX8_init_4 rfl ha ?_
  refine lv_sipush hx hb dX8_init_5 (v := 1002) rfl ?_
  refine C_ap (N := 71) (t := 1) (n := 1002) (cells' := 1) (slots' := 1002) (ty := .array .byte) he hC0 hlo0 (by decide) dX8_init_8 dX8_init_10 cl_8 fl_X8_9 rfl (by decide +kernel) (fun _ => ⟨rfl, rfl⟩) rfl (by decide) ac_1 rfl (by decide) (by decide) (by decide) (by decide) rfl rfl (fun _ => rfl) rfl rfl (by decide) rfl (by decide) ?_
  intro H1 locs1 hC1 hlo1
  refine lv_aload_n hx hb dX8_init_13 rfl ha ?_
  refine lv_sipush hx hb dX8_init_14 (v := 1002) rfl ?_
  refine C_ap (N := 72) (t := 0) (n := 1002) (cells' := 2) (slots' := 2004) (ty := .array .int) he hC1 hlo1 (by decide) dX8_init_17 dX8_init_19 cl_8 fl_X8_15 rfl (by decide +kernel) (fun _ => ⟨rfl, rfl⟩) rfl (by decide) ac_0 rfl (by decide) (by decide) (by decide) (by decide) rfl rfl (fun _ => rfl) rfl rfl (by decide) rfl (by decide) ?_
  intro H2 locs2 hC2 hlo2
  refine lv_aload_n hx hb dX8_init_22 rfl ha ?_
  refine lv_sipush hx hb dX8_init_23 (v := 1002) rfl ?_
  refine C_ap (N := 73) (t := 2) (n := 1002) (cells' := 3) (slots' := 3006) (ty := .array .short) he hC2 hlo2 (by decide) dX8_init_26 dX8_init_28 cl_8 fl_X8_19 rfl (by decide +kernel) (fun _ => ⟨rfl, rfl⟩) rfl (by decide) ac_2 rfl (by decide) (by decide) (by decide) (by decide) rfl rfl (fun _ => rfl) rfl rfl (by decide) rfl (by decide) ?_
  intro H3 locs3 hC3 hlo3
  exact C_end (N := 74) he hC3 hlo3 (by decide) rfl dX8_init_31 rfl rfl rfl (fun _ _ _ => rfl) (f_s (f_s (f_s (f_s f_0 (congrArg Value.ref (hE 71 (by decide)).symm)) (congrArg Value.ref (hE 72 (by decide)).symm)) (congrArg Value.ref (hE 73 (by decide)).symm)) rfl)
