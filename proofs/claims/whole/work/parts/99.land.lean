/-! the start: the land -/
def gT (B0 i : Nat) : Nat → Value := fun s => if s < i then .ref (B0 + (13 + 6 * s)) else .null
def DL (B0 i : Nat) : PD := fun j => if j = 2 then some (3, 8, gT B0 i) else if j = 3 then some (4, 8, fun q => .ref (B0 + (3 + 1 + q))) else if 4 + i ≤ j ∧ j < 12 then some (0, 8, z0) else if j = 12 then some (0, 3, z0) else none
theorem ok_row : ∀ i, i < 8 → okd (4 + i) = 61 ∧ oki (4 + i) = i := by decide
theorem ok_town : ∀ i, i < 8 → okd (13 + 6 * i) = 3 ∧ oki (13 + 6 * i) = i := by decide
theorem DL_rc {B0 i j : Nat} (h : 13 ≤ j) : DL B0 i j = none := by
  unfold DL
  rw [if_neg (by omega), if_neg (by omega), if_neg (by omega), if_neg (by omega)]
theorem DL_2 {B0 i : Nat} : DL B0 i 2 = some (3, 8, gT B0 i) := rfl
theorem DL_3 {B0 i : Nat} : DL B0 i 3 = some (4, 8, fun q => .ref (B0 + (3 + 1 + q))) := rfl
theorem DL_row {B0 i : Nat} (h : i < 8) : DL B0 i (4 + i) = some (0, 8, z0) := by
  unfold DL
  rw [if_neg (by omega), if_neg (by omega), if_pos (by omega)]
/-- the land's fields, when its arrays stand -/
def fLand (B0 : Nat) : Nat → Value := updV (updV (updV (dv (RX2, TX2, 6) tyX2) 0 (.ref (B0 + 2))) 1 (.ref (B0 + 3))) 2 (.ref (B0 + 12))
section LAN
variable {p : Program} {l : Launch} {e : Env} {s : State} {m : MethodId} {args : Array Value} {below : List Frame} {meth : Method} {c : Code} {E : EE} {B0 : Nat}
theorem land_loop (he : CE E B0 mX2_init.1.cls mX2_init.2.1 mX2_init.2.2.1 p s m args meth c) (kk : ∀ (H : Heap) (locs : List Loc) (lr : Array Slot), CI E B0 2 (RX2, TX2, 6) 1 61 (fLand B0) (DL B0 8) s.heap H → LO B0 locs → lv_has lr 2 [(1, .int (nI 8)), (0, .ref (B0 + 1))] → W p l e (rmC 4 59 1643) s m args below meth c H locs 59 1643 (MQ below (QN E B0 1 60) args s 59 1643 (fun q => B0 ≤ q)) (F0 m 78 lr [])) :
    ∀ (k i : Nat), i + k = 8 → ∀ (H : Heap) (locs : List Loc) (lr : Array Slot), CI E B0 2 (RX2, TX2, 6) 1 (13 + 6 * i) (fLand B0) (DL B0 i) s.heap H → LO B0 locs → lv_has lr 2 [(1, .int (nI i)), (0, .ref (B0 + 1))] → W p l e (rmC 4 59 1643) s m args below meth c H locs (11 + 6 * i) (83 + 195 * i) (MQ below (QN E B0 1 60) args s 59 1643 (fun q => B0 ≤ q)) (F0 m 34 lr []) := by
  have hx := he.1
  have hb := he.2.1
  have hE : HE E B0 := he.2.2.2.2.2.2.2.2.2
  intro k
  induction k with
  | zero =>
    intro i hi H locs lr hC hlo hL
    have hi8 : i = 8 := by omega
    subst hi8
    refine lv_iload_n hx hb dX2_init_34 rfl (lv_at hL 0 rfl) ?_
    refine lv_bipush hx hb dX2_init_35 (v := 8) rfl ?_
    refine lv_icmp_ge hx hb dX2_init_37 (tgt := 78) rfl (fun _ => ?_) (fun z => absurd (show (8 : Int32) ≤ nI 8 by decide) z)
    exact kk H locs lr hC hlo hL
  | succ k ih =>
    intro i hi H locs lr hC hlo hL
    have hi8 : i < 8 := by omega
    have hcl : (nI i).toNatClampNeg = i := nI_clamp (by omega)
    have ha := lv_at hL 1 rfl
    have h1 := lv_at hL 0 rfl
    have hz := hL.1
    refine lv_iload_n hx hb dX2_init_34 rfl h1 ?_
    refine lv_bipush hx hb dX2_init_35 (v := 8) rfl ?_
    refine lv_icmp_ge hx hb dX2_init_37 (tgt := 78) rfl (fun z => absurd z (nI_ge (b := 8) hi8 (by decide))) (fun _ => ?_)
    refine lv_aload_n hx hb dX2_init_40 rfl ha ?_
    refine C_get (sl := 0) (v := .ref (B0 + 2)) he hC dX2_init_41 cl_2 fl_X2_11 rfl ?_
    refine lv_iload_n hx hb dX2_init_44 rfl h1 ?_
    refine C_new (n := 6) (N := 13 + 6 * i) (cells' := 11 + 6 * (i + 1)) (slots' := 83 + 195 * (i + 1)) he hC hlo cl_9 tyX9_ok (in_place 99 (by decide +kernel) rfl) (in_place 103 (by decide +kernel) rfl) (in_place 69 (by decide +kernel) rfl) dX2_init_45 dX2_init_48 dX2_init_49 (con_X9 hE i hi8) m0_X9_init rfl rfl (in_place 105 (by decide +kernel) rfl) (Or.inr ⟨"StoreRealm", List.mem_of_getElem? (i := 0) (by decide +kernel)⟩) hz (by show 2 ≤ 7; decide) (by decide) (by decide) (by omega) (by show _ ≤ 59; omega) (by omega) (by show _ ≤ 1643; omega) (by omega) (by decide) (fun j h1 h2 => DL_rc (by omega)) ?_
    intro H1 locs1 hC1 hlo1
    refine C_as (N := 13 + 6 * i + 6) (j := 2) (j2 := 13 + 6 * i) (n := 8) (g := gT B0 i) he hC1 hlo1 (by omega) (by decide) (by omega) DL_2 (by omega) (by omega) (DL_rc (by omega)) (by rw [(ok_town i hi8).1]; rfl) (nI_in hi8 (by decide)) dX2_init_52 ?_
    rw [hcl]
    intro H2 locs2 hC2 hlo2
    refine lv_aload_n hx hb dX2_init_53 rfl ha ?_
    refine C_get (sl := 1) (v := .ref (B0 + 3)) he hC2 dX2_init_54 cl_2 fl_X2_19 rfl ?_
    refine lv_iload_n hx hb dX2_init_57 rfl h1 ?_
    refine C_al (j := 3) (t := 4) (n := 8) (v := .ref (B0 + (4 + i))) he hC2 (by decide) (by omega) (by rw [updD_ne (by decide)]; exact DL_3) (by decide) rfl (nI_in hi8 (by decide)) (by rw [hcl]) dX2_init_58 ?_
    refine lv_iconst hx hb dX2_init_59 (v := -1) rfl ?_
    refine C_fill (j := 4 + i) (n := 8) (g := z0) (N := 13 + 6 * i + 6) he hC2 hlo2 (by omega) (by omega) (by omega) (by rw [updD_ne (by omega)]; exact DL_row hi8) (by decide) ml_X2_27 (in_place 139 (by decide +kernel) rfl) dX2_init_60 hz (by decide) (by decide) (by decide) (by show _ ≤ 59; omega) (by show _ ≤ 1643; omega) ?_
    intro H3 locs3 hC3 hlo3
    refine lv_aload_n hx hb dX2_init_63 rfl ha ?_
    refine C_get (sl := 1) (v := .ref (B0 + 3)) he hC3 dX2_init_64 cl_2 fl_X2_19 rfl ?_
    refine lv_iload_n hx hb dX2_init_67 rfl h1 ?_
    refine C_al (j := 3) (t := 4) (n := 8) (v := .ref (B0 + (4 + i))) he hC3 (by decide) (by omega) (by rw [updD_ne (by omega), updD_ne (by decide)]; exact DL_3) (by decide) rfl (nI_in hi8 (by decide)) (by rw [hcl]) dX2_init_68 ?_
    refine lv_iload_n hx hb dX2_init_69 rfl h1 ?_
    refine lv_iconst hx hb dX2_init_70 (v := 0) rfl ?_
    refine C_ia (j := 4 + i) (t := 0) (n := 8) (g := fun _ => .int (-1)) (N := 13 + 6 * i + 6) he hC3 hlo3 (by omega) (by omega) (by omega) (updD_eq _ _ _) (nI_in hi8 (by decide)) dX2_init_71 ?_
    rw [hcl]
    intro H4 locs4 hC4 hlo4
    refine lv_iinc (k := 0) hx hb dX2_init_72 hL rfl (v := nI (i + 1)) (by rw [nI_succ i]; rfl) (by decide) rfl (fun lr2 hL2 => ?_)
    refine lv_goto hx hb dX2_init_75 (tgt := 34) rfl ?_
    obtain ⟨ok1, ok2⟩ := ok_row i hi8
    have hC5 := hC4.done (j := 4 + i) hE (by omega) (by omega) (by omega) (updD_eq _ _ _) (by rw [ok1]; rfl) (by rw [ok1]; rfl) (fun s hs => by
      rw [ok1, ok2]
      show updV _ i _ s = Value.int (cond (Nat.beq s i) 0 (-1))
      unfold updV
      by_cases es : s = i
      · subst es; simp
      · rw [if_neg es, show Nat.beq s i = false from Bool.eq_false_iff.mpr (fun z => es (Nat.eq_of_beq_eq_true z))]; rfl)
    refine ih (i + 1) (by omega) H4 locs4 lr2 ?_ hlo4 hL2
    rw [show 13 + 6 * (i + 1) = 13 + 6 * i + 6 by omega]
    refine hC5.eqD (fun j h1 h2 => ?_)
    by_cases e1 : j = 4 + i
    · rw [e1, updD_eq]
      unfold DL
      rw [if_neg (by omega), if_neg (by omega), if_neg (by omega), if_neg (by omega)]
    · rw [updD_ne e1, updD_ne e1, updD_ne e1]
      by_cases e2 : j = 2
      · rw [e2, updD_eq]
        show some (3, 8, gT B0 (i + 1)) = _
        refine congrArg (fun z => some (3, 8, z)) (funext fun q => ?_)
        unfold gT updV
        by_cases q1 : q = i
        · subst q1; simp
        · by_cases q2 : q < i
          · simp [q1, q2, Nat.lt_succ_of_lt q2]
          · simp [q1, q2, show ¬ q < i + 1 by omega]
      · rw [updD_ne e2]
        unfold DL
        rw [if_neg e2, if_neg e2]
        by_cases e3 : j = 3
        · rw [if_pos e3, if_pos e3]
        · rw [if_neg e3, if_neg e3]
          by_cases e4 : 4 + i ≤ j ∧ j < 12
          · rw [if_pos e4, if_pos (by omega)]
          · rw [if_neg e4, if_neg (by omega)]
end LAN
theorem con_X2_1 {l : Launch} {E : EE} {B0 : Nat} (hE : HE E B0) : CON l E B0 mX2_init 2 (RX2, TX2, 6) tyX2 1 60 59 1643 4 := by
  refine CON.ofW hE (by decide +kernel) rfl rfl (by decide) ?_
  intro p e s m args below meth c lr he hC0 hL
  have ha := lv_at hL 0 rfl
  have hz := hL.1
  have hx := he.1
  have hb := he.2.1
  have hlo0 : LO B0 [] := fun q hq => by cases hq
  refine C_obj he (in_place 98 (by decide +kernel) rfl) oi_in oi_co hz dX2_init_0 dX2_init_1 ha (by decide) (by decide) ?_
  refine lv_aload_n hx hb dX2_init_4 rfl ha ?_
  refine lv_bipush hx hb dX2_init_5 (v := 8) rfl ?_
  refine C_an (N := 2) (n := 8) (cells' := 1) (slots' := 8) he hC0 (by decide) (in_place 99 (by decide +kernel) rfl) dX2_init_7 (by decide) (by decide) (by decide) rfl (by decide) rfl (by decide) ?_
  intro H1 hC1
  refine C_put (N := 3) (ty := .array (.object "StoreRealm$Town")) he hC1 hlo0 (by decide) dX2_init_10 cl_2 fl_X2_11 rfl (by decide +kernel) ⟨rfl, rfl⟩ ?_
  intro H2 locs2 hC2 hlo2
  refine lv_aload_n hx hb dX2_init_13 rfl ha ?_
  refine lv_bipush hx hb dX2_init_14 (v := 8) rfl ?_
  refine lv_bipush hx hb dX2_init_16 (v := 8) rfl ?_
  refine C_mm (N := 3) (n := 8) (k := 8) (cells' := 10) (slots' := 80) he hC2 hlo2 (by decide) (in_place 101 (by decide +kernel) rfl) dX2_init_18 (by decide) (by decide) (by decide) (by decide) (by decide) (by decide) rfl (by decide) rfl (by decide) ?_
  intro H3 locs3 hC3 hlo3
  refine C_put (N := 12) (ty := .array (.array .int)) he hC3 hlo3 (by decide) dX2_init_22 cl_2 fl_X2_19 rfl (by decide +kernel) ⟨rfl, rfl⟩ ?_
  intro H4 locs4 hC4 hlo4
  refine lv_aload_n hx hb dX2_init_25 rfl ha ?_
  refine lv_iconst hx hb dX2_init_26 (v := 3) rfl ?_
  refine C_aq (N := 12) (t := 0) (n := 3) (cells' := 11) (slots' := 83) (ty := .array .int) he hC4 hlo4 (by decide) dX2_init_27 dX2_init_29 cl_2 fl_X2_22 rfl (by decide +kernel) (fun _ => ⟨rfl, rfl⟩) rfl (by decide) ac_0 rfl (by decide) (by decide) (by decide) (by decide) rfl (by decide) rfl (by decide) ?_
  intro H5 locs5 hC5 hlo5
  refine lv_iconst hx hb dX2_init_32 (v := 0) rfl ?_
  refine lv_istore_n hx hb dX2_init_33 rfl hL (by decide) rfl (fun lr1 hL1 => ?_)
  refine land_loop he (fun H locs lr hC hlo hL => ?_) 8 0 rfl H5 locs5 lr1 (hC5.eqD (fun j h1 h2 => ?_)) hlo5 hL1
  · have ha := lv_at hL 1 rfl
    refine lv_aload_n hx hb dX2_init_78 rfl ha ?_
    refine C_get (sl := 2) (v := .ref (B0 + 12)) he hC dX2_init_79 cl_2 fl_X2_22 rfl ?_
    refine lv_iconst hx hb dX2_init_82 (v := 0) rfl ?_
    refine lv_bipush hx hb dX2_init_83 (v := 12) rfl ?_
    refine C_ia (j := 12) (t := 0) (n := 3) (g := z0) (N := 61) he hC hlo (by decide) (by decide) (by decide) rfl (nI_in (c := 0) (by decide) (by decide)) dX2_init_85 ?_
    intro K1 lk1 hD1 hlp1
    refine lv_aload_n hx hb dX2_init_86 rfl ha ?_
    refine C_get (sl := 2) (v := .ref (B0 + 12)) he hD1 dX2_init_87 cl_2 fl_X2_22 rfl ?_
    refine lv_iconst hx hb dX2_init_90 (v := 1) rfl ?_
    refine lv_bipush hx hb dX2_init_91 (v := 60) rfl ?_
    refine C_ia (j := 12) (t := 0) (n := 3) (g := updV z0 0 (.int 12)) (N := 61) he hD1 hlp1 (by decide) (by decide) (by decide) (updD_eq _ _ _) (nI_in (c := 1) (by decide) (by decide)) dX2_init_93 ?_
    intro K2 lk2 hD2 hlp2
    refine lv_aload_n hx hb dX2_init_94 rfl ha ?_
    refine C_get (sl := 2) (v := .ref (B0 + 12)) he hD2 dX2_init_95 cl_2 fl_X2_22 rfl ?_
    refine lv_iconst hx hb dX2_init_98 (v := 2) rfl ?_
    refine lv_bipush hx hb dX2_init_99 (v := 24) rfl ?_
    refine C_ia (j := 12) (t := 0) (n := 3) (g := updV (updV z0 0 (.int 12)) 1 (.int 60)) (N := 61) he hD2 hlp2 (by decide) (by decide) (by decide) (updD_eq _ _ _) (nI_in (c := 2) (by decide) (by decide)) dX2_init_101 ?_
    intro K3 lk3 hD3 hlp3
    have hD4 := hD3.done (j := 12) hE (by decide) (by decide) (by decide) (updD_eq _ _ _) rfl rfl (f_s (f_s (f_s f_0 rfl) rfl) rfl)
    have hD5 := hD4.done (j := 2) hE (by decide) (by decide) (by decide) rfl rfl rfl (f_s (f_s (f_s (f_s (f_s (f_s (f_s (f_s f_0 (congrArg Value.ref (hE 13 (by decide)).symm)) (congrArg Value.ref (hE 19 (by decide)).symm)) (congrArg Value.ref (hE 25 (by decide)).symm)) (congrArg Value.ref (hE 31 (by decide)).symm)) (congrArg Value.ref (hE 37 (by decide)).symm)) (congrArg Value.ref (hE 43 (by decide)).symm)) (congrArg Value.ref (hE 49 (by decide)).symm)) (congrArg Value.ref (hE 55 (by decide)).symm))
    have hD6 := hD5.done (j := 3) hE (by decide) (by decide) (by decide) rfl rfl rfl (f_s (f_s (f_s (f_s (f_s (f_s (f_s (f_s f_0 (congrArg Value.ref (hE 4 (by decide)).symm)) (congrArg Value.ref (hE 5 (by decide)).symm)) (congrArg Value.ref (hE 6 (by decide)).symm)) (congrArg Value.ref (hE 7 (by decide)).symm)) (congrArg Value.ref (hE 8 (by decide)).symm)) (congrArg Value.ref (hE 9 (by decide)).symm)) (congrArg Value.ref (hE 10 (by decide)).symm)) (congrArg Value.ref (hE 11 (by decide)).symm))
    refine C_end (N := 61) he hD6 hlp3 (by decide) rfl dX2_init_102 rfl rfl rfl (fun j h1 h2 => ?_) (f_s (f_s (f_s (f_s (f_s (f_s f_0 (congrArg Value.ref (hE 2 (by decide)).symm)) (congrArg Value.ref (hE 3 (by decide)).symm)) (congrArg Value.ref (hE 12 (by decide)).symm)) rfl) rfl) rfl)
    unfold updD DL
    (repeat' split) <;> (first | rfl | omega)
  · have e0 : gT B0 0 = fun _ => Value.null := funext fun s => if_neg (Nat.not_lt_zero s)
    simp only [DL, updD, DM2, D0, e0]
    (repeat' split) <;> (first | rfl | omega)
