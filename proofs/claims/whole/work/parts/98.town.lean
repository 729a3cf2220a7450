/-! the start: a town -/
theorem con_X9_13 {l : Launch} {E : EE} {B0 : Nat} (hE : HE E B0) : CON l E B0 mX9_init 9 (RX9, TX9, 6) tyX9 13 6 5 189 2 := by
  refine CON.ofW hE (by decide +kernel) rfl rfl (by decide) ?_
  intro p e s m args below meth c lr he hC0 hL
  have ha := lv_at hL 0 rfl
  have hz := hL.1
  have hx := he.1
  have hb := he.2.1
  have hlo0 : LO B0 [] := fun q hq => by cases hq
  refine C_obj he (in_place 107 (by decide +kernel) rfl) oi_in oi_co hz dX9_init_0 dX9_init_1 ha (by decide) (by decide) ?_
  refine lv_aload_n hx hb dX9_init_4 rfl ha ?_
  refine lv_iconst hx hb dX9_init_5 (v := 3) rfl ?_
  refine C_ap (N := 14) (t := 0) (n := 3) (cells' := 1) (slots' := 3) (ty := .array .int) he hC0 hlo0 (by decide) dX9_init_6 dX9_init_8 cl_9 fl_X9_9 rfl (by decide +kernel) (fun _ => ⟨rfl, rfl⟩) rfl (by decide) ac_0 rfl (by decide) (by decide) (by decide) (by decide) rfl rfl (fun _ => rfl) rfl rfl (by decide) rfl (by decide) ?_
  intro H1 locs1 hC1 hlo1
  refine lv_aload_n hx hb dX9_init_11 rfl ha ?_
  refine lv_iconst hx hb dX9_init_12 (v := 3) rfl ?_
  refine lv_bipush hx hb dX9_init_13 (v := 61) rfl ?_
  refine C_mm (N := 15) (n := 3) (k := 61) (cells' := 5) (slots' := 189) he hC1 hlo1 (by decide) (in_place 108 (by decide +kernel) rfl) dX9_init_15 (by decide) (by decide) (by decide) (by decide) (by decide) (by decide) rfl (by decide) rfl (by decide) ?_
  intro H2 locs2 hC2 hlo2
  refine C_put (N := 19) (ty := .array (.array .int)) he hC2 hlo2 (by decide) dX9_init_19 cl_9 fl_X9_17 rfl (by decide +kernel) ⟨rfl, rfl⟩ ?_
  intro H3 locs3 hC3 hlo3
  have hC4 := hC3.done (j := 15) hE (by decide) (by decide) (by decide) rfl rfl rfl (f_s (f_s (f_s f_0 (congrArg Value.ref (hE 16 (by decide)).symm)) (congrArg Value.ref (hE 17 (by decide)).symm)) (congrArg Value.ref (hE 18 (by decide)).symm))
  have hC5 := hC4.done (j := 16) hE (by decide) (by decide) (by decide) rfl rfl rfl (fun _ _ => rfl)
  have hC6 := hC5.done (j := 17) hE (by decide) (by decide) (by decide) rfl rfl rfl (fun _ _ => rfl)
  have hC7 := hC6.done (j := 18) hE (by decide) (by decide) (by decide) rfl rfl rfl (fun _ _ => rfl)
  exact C_end (N := 19) he hC7 hlo3 (by decide) rfl dX9_init_22 rfl rfl rfl (fun j h1 h2 => by unfold updD DM2 D0; (repeat' split) <;> (first | rfl | omega)) (f_s (f_s (f_s (f_s (f_s (f_s f_0 rfl) rfl) rfl) rfl) (congrArg Value.ref (hE 14 (by decide)).symm)) (congrArg Value.ref (hE 15 (by decide)).symm))
theorem con_X9_19 {l : Launch} {E : EE} {B0 : Nat} (hE : HE E B0) : CON l E B0 mX9_init 9 (RX9, TX9, 6) tyX9 19 6 5 189 2 := by
  refine CON.ofW hE (by decide +kernel) rfl rfl (by decide) ?_
  intro p e s m args below meth c lr he hC0 hL
  have ha := lv_at hL 0 rfl
  have hz := hL.1
  have hx := he.1
  have hb := he.2.1
  have hlo0 : LO B0 [] := fun q hq => by cases hq
  refine C_obj he (in_place 107 (by decide +kernel) rfl) oi_in oi_co hz dX9_init_0 dX9_init_1 ha (by decide) (by decide) ?_
  refine lv_aload_n hx hb dX9_init_4 rfl ha ?_
  refine lv_iconst hx hb dX9_init_5 (v := 3) rfl ?_
  refine C_ap (N := 20) (t := 0) (n := 3) (cells' := 1) (slots' := 3) (ty := .array .int) he hC0 hlo0 (by decide) dX9_init_6 dX9_init_8 cl_9 fl_X9_9 rfl (by decide +kernel) (fun _ => ⟨rfl, rfl⟩) rfl (by decide) ac_0 rfl (by decide) (by decide) (by decide) (by decide) rfl rfl (fun _ => rfl) rfl rfl (by decide) rfl (by decide) ?_
  intro H1 locs1 hC1 hlo1
  refine lv_aload_n hx hb dX9_init_11 rfl ha ?_
  refine lv_iconst hx hb dX9_init_12 (v := 3) rfl ?_
  refine lv_bipush hx hb dX9_init_13 (v := 61) rfl ?_
  refine C_mm (N := 21) (n := 3) (k := 61) (cells' := 5) (slots' := 189) he hC1 hlo1 (by decide) (in_place 108 (by decide +kernel) rfl) dX9_init_15 (by decide) (by decide) (by decide) (by decide) (by decide) (by decide) rfl (by decide) rfl (by decide) ?_
  intro H2 locs2 hC2 hlo2
  refine C_put (N := 25) (ty := .array (.array .int)) he hC2 hlo2 (by decide) dX9_init_19 cl_9 fl_X9_17 rfl (by decide +kernel) ⟨rfl, rfl⟩ ?_
  intro H3 locs3 hC3 hlo3
  have hC4 := hC3.done (j := 21) hE (by decide) (by decide) (by decide) rfl rfl rfl (f_s (f_s (f_s f_0 (congrArg Value.ref (hE 22 (by decide)).symm)) (congrArg Value.ref (hE 23 (by decide)).symm)) (congrArg Value.ref (hE 24 (by decide)).symm))
  have hC5 := hC4.done (j := 22) hE (by decide) (by decide) (by decide) rfl rfl rfl (fun _ _ => rfl)
  have hC6 := hC5.done (j := 23) hE (by decide) (by decide) (by decide) rfl rfl rfl (fun _ _ => rfl)
  have hC7 := hC6.done (j := 24) hE (by decide) (by decide) (by decide) rfl rfl rfl (fun _ _ => rfl)
  exact C_end (N := 25) he hC7 hlo3 (by decide) rfl dX9_init_22 rfl rfl rfl (fun j h1 h2 => by unfold updD DM2 D0; (repeat' split) <;> (first | rfl | omega)) (f_s (f_s (f_s (f_s (f_s (f_s f_0 rfl) rfl) rfl) rfl) (congrArg Value.ref (hE 20 (by decide)).symm)) (congrArg Value.ref (hE 21 (by decide)).symm))
theorem con_X9_25 {l : Launch} {E : EE} {B0 : Nat} (hE : HE E B0) : CON l E B0 mX9_init 9 (RX9, TX9, 6) tyX9 25 6 5 189 2 := by
  refine CON.ofW hE (by decide +kernel) rfl rfl (by decide) ?_
  intro p e s m args below meth c lr he hC0 hL
  have ha := lv_at hL 0 rfl
  have hz := hL.1
  have hx := he.1
  have hb := he.2.1
  have hlo0 : LO B0 [] := fun q hq => by cases hq
  refine C_obj he (in_place 107 (by decide +kernel) rfl) oi_in oi_co hz dX9_init_0 dX9_init_1 ha (by decide) (by decide) ?_
  refine lv_aload_n hx hb dX9_init_4 rfl ha ?_
  refine lv_iconst hx hb dX9_init_5 (v := 3) rfl ?_
  refine C_ap (N := 26) (t := 0) (n := 3) (cells' := 1) (slots' := 3) (ty := .array .int) he hC0 hlo0 (by decide) dX9_init_6 dX9_init_8 cl_9 fl_X9_9 rfl (by decide +kernel) (fun _ => ⟨rfl, rfl⟩) rfl (by decide) ac_0 rfl (by decide) (by decide) (by decide) (by decide) rfl rfl (fun _ => rfl) rfl rfl (by decide) rfl (by decide) ?_
  intro H1 locs1 hC1 hlo1
  refine lv_aload_n hx hb dX9_init_11 rfl ha ?_
  refine lv_iconst hx hb dX9_init_12 (v := 3) rfl ?_
  refine lv_bipush hx hb dX9_init_13 (v := 61) rfl ?_
  refine C_mm (N := 27) (n := 3) (k := 61) (cells' := 5) (slots' := 189) he hC1 hlo1 (by decide) (in_place 108 (by decide +kernel) rfl) dX9_init_15 (by decide) (by decide) (by decide) (by decide) (by decide) (by decide) rfl (by decide) rfl (by decide) ?_
  intro H2 locs2 hC2 hlo2
  refine C_put (N := 31) (ty := .array (.array .int)) he hC2 hlo2 (by decide) dX9_init_19 cl_9 fl_X9_17 rfl (by decide +kernel) ⟨rfl, rfl⟩ ?_
  intro H3 locs3 hC3 hlo3
  have hC4 := hC3.done (j := 27) hE (by decide) (by decide) (by decide) rfl rfl rfl (f_s (f_s (f_s f_0 (congrArg Value.ref (hE 28 (by decide)).symm)) (congrArg Value.ref (hE 29 (by decide)).symm)) (congrArg Value.ref (hE 30 (by decide)).symm))
  have hC5 := hC4.done (j := 28) hE (by decide) (by decide) (by decide) rfl rfl rfl (fun _ _ => rfl)
  have hC6 := hC5.done (j := 29) hE (by decide) (by decide) (by decide) rfl rfl rfl (fun _ _ => rfl)
  have hC7 := hC6.done (j := 30) hE (by decide) (by decide) (by decide) rfl rfl rfl (fun _ _ => rfl)
  exact C_end (N := 31) he hC7 hlo3 (by decide) rfl dX9_init_22 rfl rfl rfl (fun j h1 h2 => by unfold updD DM2 D0; (repeat' split) <;> (first | rfl | omega)) (f_s (f_s (f_s (f_s (f_s (f_s f_0 rfl) rfl) rfl) rfl) (congrArg Value.ref (hE 26 (by decide)).symm)) (congrArg Value.ref (hE 27 (by decide)).symm))
theorem con_X9_31 {l : Launch} {E : EE} {B0 : Nat} (hE : HE E B0) : CON l E B0 mX9_init 9 (RX9, TX9, 6) tyX9 31 6 5 189 2 := by
  refine CON.ofW hE (by decide +kernel) rfl rfl (by decide) ?_
  intro p e s m args below meth c lr he hC0 hL
  have ha := lv_at hL 0 rfl
  have hz := hL.1
  have hx := he.1
  have hb := he.2.1
  have hlo0 : LO B0 [] := fun q hq => by cases hq
  refine C_obj he (in_place 107 (by decide +kernel) rfl) oi_in oi_co hz dX9_init_0 dX9_init_1 ha (by decide) (by decide) ?_
  refine lv_aload_n hx hb dX9_init_4 rfl ha ?_
  refine lv_iconst hx hb dX9_init_5 (v := 3) rfl ?_
  refine C_ap (N := 32) (t := 0) (n := 3) (cells' := 1) (slots' := 3) (ty := .array .int) he hC0 hlo0 (by decide) dX9_init_6 dX9_init_8 cl_9 fl_X9_9 rfl (by decide +kernel) (fun _ => ⟨rfl, rfl⟩) rfl (by decide) ac_0 rfl (by decide) (by decide) (by decide) (by decide) rfl rfl (fun _ => rfl) rfl rfl (by decide) rfl (by decide) ?_
  intro H1 locs1 hC1 hlo1
  refine lv_aload_n hx hb dX9_init_11 rfl ha ?_
  refine lv_iconst hx hb dX9_init_12 (v := 3) rfl ?_
  refine lv_bipush hx hb dX9_init_13 (v := 61) rfl ?_
  refine C_mm (N := 33) (n := 3) (k := 61) (cells' := 5) (slots' := 189) he hC1 hlo1 (by decide) (in_place 108 (by decide +kernel) rfl) dX9_init_15 (by decide) (by decide) (by decide) (by decide) (by decide) (by decide) rfl (by decide) rfl (by decide) ?_
  intro H2 locs2 hC2 hlo2
  refine C_put (N := 37) (ty := .array (.array .int)) he hC2 hlo2 (by decide) dX9_init_19 cl_9 fl_X9_17 rfl (by decide +kernel) ⟨rfl, rfl⟩ ?_
  intro H3 locs3 hC3 hlo3
  have hC4 := hC3.done (j := 33) hE (by decide) (by decide) (by decide) rfl rfl rfl (f_s (f_s (f_s f_0 (congrArg Value.ref (hE 34 (by decide)).symm)) (congrArg Value.ref (hE 35 (by decide)).symm)) (congrArg Value.ref (hE 36 (by decide)).symm))
  have hC5 := hC4.done (j := 34) hE (by decide) (by decide) (by decide) rfl rfl rfl (fun _ _ => rfl)
  have hC6 := hC5.done (j := 35) hE (by decide) (by decide) (by decide) rfl rfl rfl (fun _ _ => rfl)
  have hC7 := hC6.done (j := 36) hE (by decide) (by decide) (by decide) rfl rfl rfl (fun _ _ => rfl)
  exact C_end (N := 37) he hC7 hlo3 (by decide) rfl dX9_init_22 rfl rfl rfl (fun j h1 h2 => by unfold updD DM2 D0; (repeat' split) <;> (first | rfl | omega)) (f_s (f_s (f_s (f_s (f_s (f_s f_0 rfl) rfl) rfl) rfl) (congrArg Value.ref (hE 32 (by decide)).symm)) (congrArg Value.ref (hE 33 (by decide)).symm))
theorem con_X9_37 {l : Launch} {E : EE} {B0 : Nat} (hE : HE E B0) : CON l E B0 mX9_init 9 (RX9, TX9, 6) tyX9 37 6 5 189 2 := by
  refine CON.ofW hE (by decide +kernel) rfl rfl (by decide) ?_
  intro p e s m args below meth c lr he hC0 hL
  have ha := lv_at hL 0 rfl
  have hz := hL.1
  have hx := he.1
  have hb := he.2.1
  have hlo0 : LO B0 [] := fun q hq => by cases hq
  refine C_obj he (in_place 107 (by decide +kernel) rfl) oi_in oi_co hz dX9_init_0 dX9_init_1 ha (by decide) (by decide) ?_
  refine lv_aload_n hx hb dX9_init_4 rfl ha ?_
  refine lv_iconst hx hb dX9_init_5 (v := 3) rfl ?_
  refine C_ap (N := 38) (t := 0) (n := 3) (cells' := 1) (slots' := 3) (ty := .array .int) he hC0 hlo0 (by decide) dX9_init_6 dX9_init_8 cl_9 fl_X9_9 rfl (by decide +kernel) (fun _ => ⟨rfl, rfl⟩) rfl (by decide) ac_0 rfl (by decide) (by decide) (by decide) (by decide) rfl rfl (fun _ => rfl) rfl rfl (by decide) rfl (by decide) ?_
  intro H1 locs1 hC1 hlo1
  refine lv_aload_n hx hb dX9_init_11 rfl ha ?_
  refine lv_iconst hx hb dX9_init_12 (v := 3) rfl ?_
  refine lv_bipush hx hb dX9_init_13 (v := 61) rfl ?_
  refine C_mm (N := 39) (n := 3) (k := 61) (cells' := 5) (slots' := 189) he hC1 hlo1 (by decide) (in_place 108 (by decide +kernel) rfl) dX9_init_15 (by decide) (by decide) (by decide) (by decide) (by decide) (by decide) rfl (by decide) rfl (by decide) ?_
  intro H2 locs2 hC2 hlo2
  refine C_put (N := 43) (ty := .array (.array .int)) he hC2 hlo2 (by decide) dX9_init_19 cl_9 fl_X9_17 rfl (by decide +kernel) ⟨rfl, rfl⟩ ?_
  intro H3 locs3 hC3 hlo3
  have hC4 := hC3.done (j := 39) hE (by decide) (by decide) (by decide) rfl rfl rfl (f_s (f_s (f_s f_0 (congrArg Value.ref (hE 40 (by decide)).symm)) (congrArg Value.ref (hE 41 (by decide)).symm)) (congrArg Value.ref (hE 42 (by decide)).symm))
  have hC5 := hC4.done (j := 40) hE (by decide) (by decide) (by decide) rfl rfl rfl (fun _ _ => rfl)
  have hC6 := hC5.done (j := 41) hE (by decide) (by decide) (by decide) rfl rfl rfl (fun _ _ => rfl)
  have hC7 := hC6.done (j := 42) hE (by decide) (by decide) (by decide) rfl rfl rfl (fun _ _ => rfl)
  exact C_end (N := 43) he hC7 hlo3 (by decide) rfl dX9_init_22 rfl rfl rfl (fun j h1 h2 => by unfold updD DM2 D0; (repeat' split) <;> (first | rfl | omega)) (f_s (f_s (f_s (f_s (f_s (f_s f_0 rfl) rfl) rfl) rfl) (congrArg Value.ref (hE 38 (by decide)).symm)) (congrArg Value.ref (hE 39 (by decide)).symm))
theorem con_X9_43 {l : Launch} {E : EE} {B0 : Nat} (hE : HE E B0) : CON l E B0 mX9_init 9 (RX9, TX9, 6) tyX9 43 6 5 189 2 := by
  refine CON.ofW hE (by decide +kernel) rfl rfl (by decide) ?_
  intro p e s m args below meth c lr he hC0 hL
  have ha := lv_at hL 0 rfl
  have hz := hL.1
  have hx := he.1
  have hb := he.2.1
  have hlo0 : LO B0 [] := fun q hq => by cases hq
  refine C_obj he (in_place 107 (by decide +kernel) rfl) oi_in oi_co hz dX9_init_0 dX9_init_1 ha (by decide) (by decide) ?_
  refine lv_aload_n hx hb dX9_init_4 rfl ha ?_
  refine lv_iconst hx hb dX9_init_5 (v := 3) rfl ?_
  refine C_ap (N := 44) (t := 0) (n := 3) (cells' := 1) (slots' := 3) (ty := .array .int) he hC0 hlo0 (by decide) dX9_init_6 dX9_init_8 cl_9 fl_X9_9 rfl (by decide +kernel) (fun _ => ⟨rfl, rfl⟩) rfl (by decide) ac_0 rfl (by decide) (by decide) (by decide) (by decide) rfl rfl (fun _ => rfl) rfl rfl (by decide) rfl (by decide) ?_
  intro H1 locs1 hC1 hlo1
  refine lv_aload_n hx hb dX9_init_11 rfl ha ?_
  refine lv_iconst hx hb dX9_init_12 (v := 3) rfl ?_
  refine lv_bipush hx hb dX9_init_13 (v := 61) rfl ?_
  refine C_mm (N := 45) (n := 3) (k := 61) (cells' := 5) (slots' := 189) he hC1 hlo1 (by decide) (in_place 108 (by decide +kernel) rfl) dX9_init_15 (by decide) (by decide) (by decide) (by decide) (by decide) (by decide) rfl (by decide) rfl (by decide) ?_
  intro H2 locs2 hC2 hlo2
  refine C_put (N := 49) (ty := .array (.array .int)) he hC2 hlo2 (by decide) dX9_init_19 cl_9 fl_X9_17 rfl (by decide +kernel) ⟨rfl, rfl⟩ ?_
  intro H3 locs3 hC3 hlo3
  have hC4 := hC3.done (j := 45) hE (by decide) (by decide) (by decide) rfl rfl rfl (f_s (f_s (f_s f_0 (congrArg Value.ref (hE 46 (by decide)).symm)) (congrArg Value.ref (hE 47 (by decide)).symm)) (congrArg Value.ref (hE 48 (by decide)).symm))
  have hC5 := hC4.done (j := 46) hE (by decide) (by decide) (by decide) rfl rfl rfl (fun _ _ => rfl)
  have hC6 := hC5.done (j := 47) hE (by decide) (by decide) (by decide) rfl rfl rfl (fun _ _ => rfl)
  have hC7 := hC6.done (j := 48) hE (by decide) (by decide) (by decide) rfl rfl rfl (fun _ _ => rfl)
  exact C_end (N := 49) he hC7 hlo3 (by decide) rfl dX9_init_22 rfl rfl rfl (fun j h1 h2 => by unfold updD DM2 D0; (repeat' split) <;> (first | rfl | omega)) (f_s (f_s (f_s (f_s (f_s (f_s f_0 rfl) rfl) rfl) rfl) (congrArg Value.ref (hE 44 (by decide)).symm)) (congrArg Value.ref (hE 45 (by decide)).symm))
theorem con_X9_49 {l : Launch} {E : EE} {B0 : Nat} (hE : HE E B0) : CON l E B0 mX9_init 9 (RX9, TX9, 6) tyX9 49 6 5 189 2 := by
  refine CON.ofW hE (by decide +kernel) rfl rfl (by decide) ?_
  intro p e s m args below meth c lr he hC0 hL
  have ha := lv_at hL 0 rfl
  have hz := hL.1
  have hx := he.1
  have hb := he.2.1
  have hlo0 : LO B0 [] := fun q hq => by cases hq
  refine C_obj he (in_place 107 (by decide +kernel) rfl) oi_in oi_co hz dX9_init_0 dX9_init_1 ha (by decide) (by decide) ?_
  refine lv_aload_n hx hb dX9_init_4 rfl ha ?_
  refine lv_iconst hx hb dX9_init_5 (v := 3) rfl ?_
  refine C_ap (N := 50) (t := 0) (n := 3) (cells' := 1) (slots' := 3) (ty := .array .int) he hC0 hlo0 (by decide) dX9_init_6 dX9_init_8 cl_9 fl_X9_9 rfl (by decide +kernel) (fun _ => ⟨rfl, rfl⟩) rfl (by decide) ac_0 rfl (by decide) (by decide) (by decide) (by decide) rfl rfl (fun _ => rfl) rfl rfl (by decide) rfl (by decide) ?_
  intro H1 locs1 hC1 hlo1
  refine lv_aload_n hx hb dX9_init_11 rfl ha ?_
  refine lv_iconst hx hb dX9_init_12 (v := 3) rfl ?_
  refine lv_bipush hx hb dX9_init_13 (v := 61) rfl ?_
  refine C_mm (N := 51) (n := 3) (k := 61) (cells' := 5) (slots' := 189) he hC1 hlo1 (by decide) (in_place 108 (by decide +kernel) rfl) dX9_init_15 (by decide) (by decide) (by decide) (by decide) (by decide) (by decide) rfl (by decide) rfl (by decide) ?_
  intro H2 locs2 hC2 hlo2
  refine C_put (N := 55) (ty := .array (.array .int)) he hC2 hlo2 (by decide) dX9_init_19 cl_9 fl_X9_17 rfl (by decide +kernel) ⟨rfl, rfl⟩ ?_
  intro H3 locs3 hC3 hlo3
  have hC4 := hC3.done (j := 51) hE (by decide) (by decide) (by decide) rfl rfl rfl (f_s (f_s (f_s f_0 (congrArg Value.ref (hE 52 (by decide)).symm)) (congrArg Value.ref (hE 53 (by decide)).symm)) (congrArg Value.ref (hE 54 (by decide)).symm))
  have hC5 := hC4.done (j := 52) hE (by decide) (by decide) (by decide) rfl rfl rfl (fun _ _ => rfl)
  have hC6 := hC5.done (j := 53) hE (by decide) (by decide) (by decide) rfl rfl rfl (fun _ _ => rfl)
  have hC7 := hC6.done (j := 54) hE (by decide) (by decide) (by decide) rfl rfl rfl (fun _ _ => rfl)
  exact C_end (N := 55) he hC7 hlo3 (by decide) rfl dX9_init_22 rfl rfl rfl (fun j h1 h2 => by unfold updD DM2 D0; (repeat' split) <;> (first | rfl | omega)) (f_s (f_s (f_s (f_s (f_s (f_s f_0 rfl) rfl) rfl) rfl) (congrArg Value.ref (hE 50 (by decide)).symm)) (congrArg Value.ref (hE 51 (by decide)).symm))
theorem con_X9_55 {l : Launch} {E : EE} {B0 : Nat} (hE : HE E B0) : CON l E B0 mX9_init 9 (RX9, TX9, 6) tyX9 55 6 5 189 2 := by
  refine CON.ofW hE (by decide +kernel) rfl rfl (by decide) ?_
  intro p e s m args below meth c lr he hC0 hL
  have ha := lv_at hL 0 rfl
  have hz := hL.1
  have hx := he.1
  have hb := he.2.1
  have hlo0 : LO B0 [] := fun q hq => by cases hq
  refine C_obj he (in_place 107 (by decide +kernel) rfl) oi_in oi_co hz dX9_init_0 dX9_init_1 ha (by decide) (by decide) ?_
  refine lv_aload_n hx hb dX9_init_4 rfl ha ?_
  refine lv_iconst hx hb dX9_init_5 (v := 3) rfl ?_
  refine C_ap (N := 56) (t := 0) (n := 3) (cells' := 1) (slots' := 3) (ty := .array .int) he hC0 hlo0 (by decide) dX9_init_6 dX9_init_8 cl_9 fl_X9_9 rfl (by decide +kernel) (fun _ => ⟨rfl, rfl⟩) rfl (by decide) ac_0 rfl (by decide) (by decide) (by decide) (by decide) rfl rfl (fun _ => rfl) rfl rfl (by decide) rfl (by decide) ?_
  intro H1 locs1 hC1 hlo1
  refine lv_aload_n hx hb dX9_init_11 rfl ha ?_
  refine lv_iconst hx hb dX9_init_12 (v := 3) rfl ?_
  refine lv_bipush hx hb dX9_init_13 (v := 61) rfl ?_
  refine C_mm (N := 57) (n := 3) (k := 61) (cells' := 5) (slots' := 189) he hC1 hlo1 (by decide) (in_place 108 (by decide +kernel) rfl) dX9_init_15 (by decide) (by decide) (by decide) (by decide) (by decide) (by decide) rfl (by decide) rfl (by decide) ?_
  intro H2 locs2 hC2 hlo2
  refine C_put (N := 61) (ty := .array (.array .int)) he hC2 hlo2 (by decide) dX9_init_19 cl_9 fl_X9_17 rfl (by decide +kernel) ⟨rfl, rfl⟩ ?_
  intro H3 locs3 hC3 hlo3
  have hC4 := hC3.done (j := 57) hE (by decide) (by decide) (by decide) rfl rfl rfl (f_s (f_s (f_s f_0 (congrArg Value.ref (hE 58 (by decide)).symm)) (congrArg Value.ref (hE 59 (by decide)).symm)) (congrArg Value.ref (hE 60 (by decide)).symm))
  have hC5 := hC4.done (j := 58) hE (by decide) (by decide) (by decide) rfl rfl rfl (fun _ _ => rfl)
  have hC6 := hC5.done (j := 59) hE (by decide) (by decide) (by decide) rfl rfl rfl (fun _ _ => rfl)
  have hC7 := hC6.done (j := 60) hE (by decide) (by decide) (by decide) rfl rfl rfl (fun _ _ => rfl)
  exact C_end (N := 61) he hC7 hlo3 (by decide) rfl dX9_init_22 rfl rfl rfl (fun j h1 h2 => by unfold updD DM2 D0; (repeat' split) <;> (first | rfl | omega)) (f_s (f_s (f_s (f_s (f_s (f_s f_0 rfl) rfl) rfl) rfl) (congrArg Value.ref (hE 56 (by decide)).symm)) (congrArg Value.ref (hE 57 (by decide)).symm))
theorem con_X9 {l : Launch} {E : EE} {B0 : Nat} (hE : HE E B0) : ∀ i, i < 8 → CON l E B0 mX9_init 9 (RX9, TX9, 6) tyX9 (13 + 6 * i) 6 5 189 2 := (f_s (f_s (f_s (f_s (f_s (f_s (f_s (f_s f_0 (con_X9_13 hE)) (con_X9_19 hE)) (con_X9_25 hE)) (con_X9_31 hE)) (con_X9_37 hE)) (con_X9_43 hE)) (con_X9_49 hE)) (con_X9_55 hE))
