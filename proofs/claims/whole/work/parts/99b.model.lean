/-! the start: the reference -/
def gM (i : Nat) : Nat → Value := fun s => if s < i then .int (cond (Nat.beq (s / 8) (s % 8)) 0 (-1)) else .int 0
def DMo (i : Nat) : PD := updD (updD D0 121 (some (0, 64, gM i))) 122 (some (0, 3, z0))
theorem dv8 : ∀ i, i < 64 → (nI i / 8 = nI i - nI i / 8 * 8 ↔ i / 8 = i % 8) := by decide +kernel
section MOD
variable {p : Program} {l : Launch} {e : Env} {s : State} {m : MethodId} {args : Array Value} {below : List Frame} {meth : Method} {c : Code} {E : EE} {B0 : Nat} {f : Nat → Value}
theorem model_loop (he : CE E B0 mX11_init.1.cls mX11_init.2.1 mX11_init.2.2.1 p s m args meth c) (hf3 : f 3 = .ref (B0 + 121)) (kk : ∀ (H : Heap) (locs : List Loc) (lr : Array Slot), CI E B0 11 (RX11, TX11, 70) 117 164 f (DMo 64) s.heap H → LO B0 locs → lv_has lr 2 [(1, .int (nI 64)), (0, .ref (B0 + 117))] → W p l e (rmC 2 46 17034) s m args below meth c H locs 46 17034 (MQ below (QN E B0 117 47) args s 46 17034 (fun q => B0 ≤ q)) (F0 m 420 lr [])) :
    ∀ (k i : Nat), i + k = 64 → ∀ (H : Heap) (locs : List Loc) (lr : Array Slot), CI E B0 11 (RX11, TX11, 70) 117 164 f (DMo i) s.heap H → LO B0 locs → lv_has lr 2 [(1, .int (nI i)), (0, .ref (B0 + 117))] → W p l e (rmC 2 46 17034) s m args below meth c H locs 46 17034 (MQ below (QN E B0 117 47) args s 46 17034 (fun q => B0 ≤ q)) (F0 m 386 lr []) := by
  have hx := he.1
  have hb := he.2.1
  intro k
  induction k with
  | zero =>
    intro i hi H locs lr hC hlo hL
    have hi8 : i = 64 := by omega
    subst hi8
    refine lv_iload_n hx hb dX11_init_386 rfl (lv_at hL 0 rfl) ?_
    refine lv_bipush hx hb dX11_init_387 (v := 64) rfl ?_
    refine lv_icmp_ge hx hb dX11_init_389 (tgt := 420) rfl (fun _ => ?_) (fun z => absurd (show (64 : Int32) ≤ nI 64 by decide) z)
    exact kk H locs lr hC hlo hL
  | succ k ih =>
    intro i hi H locs lr hC hlo hL
    have hi8 : i < 64 := by omega
    have hcl : (nI i).toNatClampNeg = i := nI_clamp (by omega)
    have ha := lv_at hL 1 rfl
    have h1 := lv_at hL 0 rfl
    have join : W p l e (rmC 2 46 17034) s m args below meth c H locs 46 17034 (MQ below (QN E B0 117 47) args s 46 17034 (fun q => B0 ≤ q)) (F0 m 413 lr [.int (cond (Nat.beq (i / 8) (i % 8)) 0 (-1)), .int (nI i), .ref (B0 + 121)]) := by
      refine C_ia (j := 121) (t := 0) (n := 64) (g := gM i) (N := 164) he hC hlo (by decide) (by decide) (by decide) rfl (nI_in hi8 (by decide)) dX11_init_413 ?_
      rw [hcl]
      intro H1 locs1 hC1 hlo1
      refine lv_iinc (k := 0) hx hb dX11_init_414 hL rfl (v := nI (i + 1)) (by rw [nI_succ i]; rfl) (by decide) rfl (fun lr2 hL2 => ?_)
      refine lv_goto hx hb dX11_init_417 (tgt := 386) rfl ?_
      refine ih (i + 1) (by omega) H1 locs1 lr2 (hC1.eqD (fun j h1 h2 => ?_)) hlo1 hL2
      unfold DMo
      by_cases e1 : j = 122
      · subst e1; rfl
      · rw [updD_ne e1]
        by_cases e2 : j = 121
        · rw [e2, updD_eq, updD_eq]
          refine congrArg (fun z => some (0, 64, z)) (funext fun q => ?_)
          unfold gM updV
          by_cases q1 : q = i
          · subst q1; simp
          · by_cases q2 : q < i
            · simp [q1, q2, Nat.lt_succ_of_lt q2]
            · simp [q1, q2, show ¬ q < i + 1 by omega]
        · rw [updD_ne e2, updD_ne e2, updD_ne e1, updD_ne e2]
    refine lv_iload_n hx hb dX11_init_386 rfl h1 ?_
    refine lv_bipush hx hb dX11_init_387 (v := 64) rfl ?_
    refine lv_icmp_ge hx hb dX11_init_389 (tgt := 420) rfl (fun z => absurd z (nI_ge (b := 64) hi8 (by decide))) (fun _ => ?_)
    refine lv_aload_n hx hb dX11_init_392 rfl ha ?_
    refine C_get (sl := 3) (v := .ref (B0 + 121)) he hC dX11_init_393 cl_11 fl_X11_19 hf3 ?_
    refine lv_iload_n hx hb dX11_init_396 rfl h1 ?_
    refine lv_iload_n hx hb dX11_init_397 rfl h1 ?_
    refine lv_bipush hx hb dX11_init_398 (v := 8) rfl ?_
    refine lv_idiv hx hb dX11_init_400 (by decide) ?_
    refine lv_iload_n hx hb dX11_init_401 rfl h1 ?_
    refine lv_bipush hx hb dX11_init_402 (v := 8) rfl ?_
    refine lv_irem hx hb dX11_init_404 (by decide) ?_
    refine lv_icmp_ne hx hb dX11_init_405 (tgt := 412) rfl (fun z => ?_) (fun z => ?_)
    · refine lv_iconst hx hb dX11_init_412 (v := -1) rfl ?_
      have hne : ¬ i / 8 = i % 8 := fun q => z ((dv8 i hi8).mpr q)
      rw [show Nat.beq (i / 8) (i % 8) = false from Bool.eq_false_iff.mpr (fun z => hne (Nat.eq_of_beq_eq_true z))] at join
      exact join
    · refine lv_iconst hx hb dX11_init_408 (v := 0) rfl ?_
      refine lv_goto hx hb dX11_init_409 (tgt := 413) rfl ?_
      rw [(dv8 i hi8).mp z, Nat.beq_refl] at join
      exact join
end MOD
theorem con_X11_117 {l : Launch} {E : EE} {B0 : Nat} (hE : HE E B0) : CON l E B0 mX11_init 11 (RX11, TX11, 70) tyX11 117 47 46 17034 2 := by
  refine CON.ofW hE (by decide +kernel) rfl rfl (by decide) ?_
  intro p e s m args below meth c lr he hC0 hL
  have ha := lv_at hL 0 rfl
  have hz := hL.1
  have hx := he.1
  have hb := he.2.1
  have hlo0 : LO B0 [] := fun q hq => by cases hq
  refine C_obj he (in_place 930 (by decide +kernel) rfl) oi_in oi_co hz dX11_init_0 dX11_init_1 ha (by decide) (by decide) ?_
  refine lv_aload_n hx hb dX11_init_4 rfl ha ?_
  refine lv_bipush hx hb dX11_init_5 (v := 8) rfl ?_
  refine C_ap (N := 118) (t := 0) (n := 8) (cells' := 1) (slots' := 8) (ty := .array .int) he hC0 hlo0 (by decide) dX11_init_7 dX11_init_9 cl_11 fl_X11_7 rfl (by decide +kernel) (fun _ => ⟨rfl, rfl⟩) rfl (by decide) ac_0 rfl (by decide) (by decide) (by decide) (by decide) rfl rfl (fun _ => rfl) rfl rfl (by decide) rfl (by decide) ?_
  intro H1 locs1 hC1 hlo1
  refine lv_aload_n hx hb dX11_init_12 rfl ha ?_
  refine lv_bipush hx hb dX11_init_13 (v := 8) rfl ?_
  refine C_ap (N := 119) (t := 0) (n := 8) (cells' := 2) (slots' := 16) (ty := .array .int) he hC1 hlo1 (by decide) dX11_init_15 dX11_init_17 cl_11 fl_X11_13 rfl (by decide +kernel) (fun _ => ⟨rfl, rfl⟩) rfl (by decide) ac_0 rfl (by decide) (by decide) (by decide) (by decide) rfl rfl (fun _ => rfl) rfl rfl (by decide) rfl (by decide) ?_
  intro H2 locs2 hC2 hlo2
  refine lv_aload_n hx hb dX11_init_20 rfl ha ?_
  refine lv_bipush hx hb dX11_init_21 (v := 8) rfl ?_
  refine C_ap (N := 120) (t := 0) (n := 8) (cells' := 3) (slots' := 24) (ty := .array .int) he hC2 hlo2 (by decide) dX11_init_23 dX11_init_25 cl_11 fl_X11_16 rfl (by decide +kernel) (fun _ => ⟨rfl, rfl⟩) rfl (by decide) ac_0 rfl (by decide) (by decide) (by decide) (by decide) rfl rfl (fun _ => rfl) rfl rfl (by decide) rfl (by decide) ?_
  intro H3 locs3 hC3 hlo3
  refine lv_aload_n hx hb dX11_init_28 rfl ha ?_
  refine lv_bipush hx hb dX11_init_29 (v := 64) rfl ?_
  refine C_aq (N := 121) (t := 0) (n := 64) (cells' := 4) (slots' := 88) (ty := .array .int) he hC3 hlo3 (by decide) dX11_init_31 dX11_init_33 cl_11 fl_X11_19 rfl (by decide +kernel) (fun _ => ⟨rfl, rfl⟩) rfl (by decide) ac_0 rfl (by decide) (by decide) (by decide) (by decide) rfl (by decide) rfl (by decide) ?_
  intro H4 locs4 hC4 hlo4
  refine lv_aload_n hx hb dX11_init_36 rfl ha ?_
  refine lv_iconst hx hb dX11_init_37 (v := 3) rfl ?_
  refine C_aq (N := 122) (t := 0) (n := 3) (cells' := 5) (slots' := 91) (ty := .array .int) he hC4 hlo4 (by decide) dX11_init_38 dX11_init_40 cl_11 fl_X11_22 rfl (by decide +kernel) (fun _ => ⟨rfl, rfl⟩) rfl (by decide) ac_0 rfl (by decide) (by decide) (by decide) (by decide) rfl (by decide) rfl (by decide) ?_
  intro H5 locs5 hC5 hlo5
  refine lv_aload_n hx hb dX11_init_43 rfl ha ?_
  refine lv_sipush hx hb dX11_init_44 (v := 1464) rfl ?_
  refine C_ap (N := 123) (t := 0) (n := 1464) (cells' := 6) (slots' := 1555) (ty := .array .int) he hC5 hlo5 (by decide) dX11_init_47 dX11_init_49 cl_11 fl_X11_25 rfl (by decide +kernel) (fun _ => ⟨rfl, rfl⟩) rfl (by decide) ac_0 rfl (by decide) (by decide) (by decide) (by decide) rfl rfl (fun _ => rfl) rfl rfl (by decide) rfl (by decide) ?_
  intro H6 locs6 hC6 hlo6
  refine lv_aload_n hx hb dX11_init_52 rfl ha ?_
  refine lv_bipush hx hb dX11_init_53 (v := 6) rfl ?_
  refine C_ap (N := 124) (t := 0) (n := 6) (cells' := 7) (slots' := 1561) (ty := .array .int) he hC6 hlo6 (by decide) dX11_init_55 dX11_init_57 cl_11 fl_X11_28 rfl (by decide +kernel) (fun _ => ⟨rfl, rfl⟩) rfl (by decide) ac_0 rfl (by decide) (by decide) (by decide) (by decide) rfl rfl (fun _ => rfl) rfl rfl (by decide) rfl (by decide) ?_
  intro H7 locs7 hC7 hlo7
  refine lv_aload_n hx hb dX11_init_60 rfl ha ?_
  refine lv_sipush hx hb dX11_init_61 (v := 1020) rfl ?_
  refine C_ap (N := 125) (t := 1) (n := 1020) (cells' := 8) (slots' := 2581) (ty := .array .byte) he hC7 hlo7 (by decide) dX11_init_64 dX11_init_66 cl_11 fl_X11_31 rfl (by decide +kernel) (fun _ => ⟨rfl, rfl⟩) rfl (by decide) ac_1 rfl (by decide) (by decide) (by decide) (by decide) rfl rfl (fun _ => rfl) rfl rfl (by decide) rfl (by decide) ?_
  intro H8 locs8 hC8 hlo8
  refine lv_aload_n hx hb dX11_init_69 rfl ha ?_
  refine lv_sipush hx hb dX11_init_70 (v := 1000) rfl ?_
  refine C_ap (N := 126) (t := 1) (n := 1000) (cells' := 9) (slots' := 3581) (ty := .array .byte) he hC8 hlo8 (by decide) dX11_init_73 dX11_init_75 cl_11 fl_X11_35 rfl (by decide +kernel) (fun _ => ⟨rfl, rfl⟩) rfl (by decide) ac_1 rfl (by decide) (by decide) (by decide) (by decide) rfl rfl (fun _ => rfl) rfl rfl (by decide) rfl (by decide) ?_
  intro H9 locs9 hC9 hlo9
  refine lv_aload_n hx hb dX11_init_78 rfl ha ?_
  refine lv_iconst hx hb dX11_init_79 (v := (-1)) rfl ?_
  refine C_put (N := 127) (ty := .int) he hC9 hlo9 (by decide) dX11_init_80 cl_11 fl_X11_38 rfl (by decide +kernel) ⟨rfl, rfl⟩ ?_
  intro H10 locs10 hC10 hlo10
  refine lv_aload_n hx hb dX11_init_83 rfl ha ?_
  refine lv_iconst hx hb dX11_init_84 (v := 2) rfl ?_
  refine C_ap (N := 127) (t := 0) (n := 2) (cells' := 10) (slots' := 3583) (ty := .array .int) he hC10 hlo10 (by decide) dX11_init_85 dX11_init_87 cl_11 fl_X11_42 rfl (by decide +kernel) (fun _ => ⟨rfl, rfl⟩) rfl (by decide) ac_0 rfl (by decide) (by decide) (by decide) (by decide) rfl rfl (fun _ => rfl) rfl rfl (by decide) rfl (by decide) ?_
  intro H11 locs11 hC11 hlo11
  refine lv_aload_n hx hb dX11_init_90 rfl ha ?_
  refine lv_bipush hx hb dX11_init_91 (v := 24) rfl ?_
  refine C_ap (N := 128) (t := 0) (n := 24) (cells' := 11) (slots' := 3607) (ty := .array .int) he hC11 hlo11 (by decide) dX11_init_93 dX11_init_95 cl_11 fl_X11_45 rfl (by decide +kernel) (fun _ => ⟨rfl, rfl⟩) rfl (by decide) ac_0 rfl (by decide) (by decide) (by decide) (by decide) rfl rfl (fun _ => rfl) rfl rfl (by decide) rfl (by decide) ?_
  intro H12 locs12 hC12 hlo12
  refine lv_aload_n hx hb dX11_init_98 rfl ha ?_
  refine lv_bipush hx hb dX11_init_99 (v := 24) rfl ?_
  refine C_ap (N := 129) (t := 0) (n := 24) (cells' := 12) (slots' := 3631) (ty := .array .int) he hC12 hlo12 (by decide) dX11_init_101 dX11_init_103 cl_11 fl_X11_48 rfl (by decide +kernel) (fun _ => ⟨rfl, rfl⟩) rfl (by decide) ac_0 rfl (by decide) (by decide) (by decide) (by decide) rfl rfl (fun _ => rfl) rfl rfl (by decide) rfl (by decide) ?_
  intro H13 locs13 hC13 hlo13
  refine lv_aload_n hx hb dX11_init_106 rfl ha ?_
  refine lv_bipush hx hb dX11_init_107 (v := 24) rfl ?_
  refine C_ap (N := 130) (t := 0) (n := 24) (cells' := 13) (slots' := 3655) (ty := .array .int) he hC13 hlo13 (by decide) dX11_init_109 dX11_init_111 cl_11 fl_X11_51 rfl (by decide +kernel) (fun _ => ⟨rfl, rfl⟩) rfl (by decide) ac_0 rfl (by decide) (by decide) (by decide) (by decide) rfl rfl (fun _ => rfl) rfl rfl (by decide) rfl (by decide) ?_
  intro H14 locs14 hC14 hlo14
  refine lv_aload_n hx hb dX11_init_114 rfl ha ?_
  refine lv_bipush hx hb dX11_init_115 (v := 24) rfl ?_
  refine C_ap (N := 131) (t := 0) (n := 24) (cells' := 14) (slots' := 3679) (ty := .array .int) he hC14 hlo14 (by decide) dX11_init_117 dX11_init_119 cl_11 fl_X11_54 rfl (by decide +kernel) (fun _ => ⟨rfl, rfl⟩) rfl (by decide) ac_0 rfl (by decide) (by decide) (by decide) (by decide) rfl rfl (fun _ => rfl) rfl rfl (by decide) rfl (by decide) ?_
  intro H15 locs15 hC15 hlo15
  refine lv_aload_n hx hb dX11_init_122 rfl ha ?_
  refine lv_bipush hx hb dX11_init_123 (v := 24) rfl ?_
  refine C_ap (N := 132) (t := 0) (n := 24) (cells' := 15) (slots' := 3703) (ty := .array .int) he hC15 hlo15 (by decide) dX11_init_125 dX11_init_127 cl_11 fl_X11_57 rfl (by decide +kernel) (fun _ => ⟨rfl, rfl⟩) rfl (by decide) ac_0 rfl (by decide) (by decide) (by decide) (by decide) rfl rfl (fun _ => rfl) rfl rfl (by decide) rfl (by decide) ?_
  intro H16 locs16 hC16 hlo16
  refine lv_aload_n hx hb dX11_init_130 rfl ha ?_
  refine lv_bipush hx hb dX11_init_131 (v := 24) rfl ?_
  refine C_ap (N := 133) (t := 0) (n := 24) (cells' := 16) (slots' := 3727) (ty := .array .int) he hC16 hlo16 (by decide) dX11_init_133 dX11_init_135 cl_11 fl_X11_60 rfl (by decide +kernel) (fun _ => ⟨rfl, rfl⟩) rfl (by decide) ac_0 rfl (by decide) (by decide) (by decide) (by decide) rfl rfl (fun _ => rfl) rfl rfl (by decide) rfl (by decide) ?_
  intro H17 locs17 hC17 hlo17
  refine lv_aload_n hx hb dX11_init_138 rfl ha ?_
  refine lv_sipush hx hb dX11_init_139 (v := 2000) rfl ?_
  refine C_ap (N := 134) (t := 0) (n := 2000) (cells' := 17) (slots' := 5727) (ty := .array .int) he hC17 hlo17 (by decide) dX11_init_142 dX11_init_144 cl_11 fl_X11_63 rfl (by decide +kernel) (fun _ => ⟨rfl, rfl⟩) rfl (by decide) ac_0 rfl (by decide) (by decide) (by decide) (by decide) rfl rfl (fun _ => rfl) rfl rfl (by decide) rfl (by decide) ?_
  intro H18 locs18 hC18 hlo18
  refine lv_aload_n hx hb dX11_init_147 rfl ha ?_
  refine lv_sipush hx hb dX11_init_148 (v := 2000) rfl ?_
  refine C_ap (N := 135) (t := 0) (n := 2000) (cells' := 18) (slots' := 7727) (ty := .array .int) he hC18 hlo18 (by decide) dX11_init_151 dX11_init_153 cl_11 fl_X11_66 rfl (by decide +kernel) (fun _ => ⟨rfl, rfl⟩) rfl (by decide) ac_0 rfl (by decide) (by decide) (by decide) (by decide) rfl rfl (fun _ => rfl) rfl rfl (by decide) rfl (by decide) ?_
  intro H19 locs19 hC19 hlo19
  refine lv_aload_n hx hb dX11_init_156 rfl ha ?_
  refine lv_sipush hx hb dX11_init_157 (v := 2000) rfl ?_
  refine C_ap (N := 136) (t := 0) (n := 2000) (cells' := 19) (slots' := 9727) (ty := .array .int) he hC19 hlo19 (by decide) dX11_init_160 dX11_init_162 cl_11 fl_X11_69 rfl (by decide +kernel) (fun _ => ⟨rfl, rfl⟩) rfl (by decide) ac_0 rfl (by decide) (by decide) (by decide) (by decide) rfl rfl (fun _ => rfl) rfl rfl (by decide) rfl (by decide) ?_
  intro H20 locs20 hC20 hlo20
  refine lv_aload_n hx hb dX11_init_165 rfl ha ?_
  refine lv_bipush hx hb dX11_init_166 (v := 60) rfl ?_
  refine C_ap (N := 137) (t := 0) (n := 60) (cells' := 20) (slots' := 9787) (ty := .array .int) he hC20 hlo20 (by decide) dX11_init_168 dX11_init_170 cl_11 fl_X11_72 rfl (by decide +kernel) (fun _ => ⟨rfl, rfl⟩) rfl (by decide) ac_0 rfl (by decide) (by decide) (by decide) (by decide) rfl rfl (fun _ => rfl) rfl rfl (by decide) rfl (by decide) ?_
  intro H21 locs21 hC21 hlo21
  refine lv_aload_n hx hb dX11_init_173 rfl ha ?_
  refine lv_bipush hx hb dX11_init_174 (v := 100) rfl ?_
  refine C_ap (N := 138) (t := 0) (n := 100) (cells' := 21) (slots' := 9887) (ty := .array .int) he hC21 hlo21 (by decide) dX11_init_176 dX11_init_178 cl_11 fl_X11_75 rfl (by decide +kernel) (fun _ => ⟨rfl, rfl⟩) rfl (by decide) ac_0 rfl (by decide) (by decide) (by decide) (by decide) rfl rfl (fun _ => rfl) rfl rfl (by decide) rfl (by decide) ?_
  intro H22 locs22 hC22 hlo22
  refine lv_aload_n hx hb dX11_init_181 rfl ha ?_
  refine lv_bipush hx hb dX11_init_182 (v := 60) rfl ?_
  refine C_ap (N := 139) (t := 0) (n := 60) (cells' := 22) (slots' := 9947) (ty := .array .int) he hC22 hlo22 (by decide) dX11_init_184 dX11_init_186 cl_11 fl_X11_78 rfl (by decide +kernel) (fun _ => ⟨rfl, rfl⟩) rfl (by decide) ac_0 rfl (by decide) (by decide) (by decide) (by decide) rfl rfl (fun _ => rfl) rfl rfl (by decide) rfl (by decide) ?_
  intro H23 locs23 hC23 hlo23
  refine lv_aload_n hx hb dX11_init_189 rfl ha ?_
  refine lv_bipush hx hb dX11_init_190 (v := 60) rfl ?_
  refine C_ap (N := 140) (t := 0) (n := 60) (cells' := 23) (slots' := 10007) (ty := .array .int) he hC23 hlo23 (by decide) dX11_init_192 dX11_init_194 cl_11 fl_X11_81 rfl (by decide +kernel) (fun _ => ⟨rfl, rfl⟩) rfl (by decide) ac_0 rfl (by decide) (by decide) (by decide) (by decide) rfl rfl (fun _ => rfl) rfl rfl (by decide) rfl (by decide) ?_
  intro H24 locs24 hC24 hlo24
  refine lv_aload_n hx hb dX11_init_197 rfl ha ?_
  refine lv_bipush hx hb dX11_init_198 (v := 60) rfl ?_
  refine C_ap (N := 141) (t := 0) (n := 60) (cells' := 24) (slots' := 10067) (ty := .array .int) he hC24 hlo24 (by decide) dX11_init_200 dX11_init_202 cl_11 fl_X11_84 rfl (by decide +kernel) (fun _ => ⟨rfl, rfl⟩) rfl (by decide) ac_0 rfl (by decide) (by decide) (by decide) (by decide) rfl rfl (fun _ => rfl) rfl rfl (by decide) rfl (by decide) ?_
  intro H25 locs25 hC25 hlo25
  refine lv_aload_n hx hb dX11_init_205 rfl ha ?_
  refine lv_bipush hx hb dX11_init_206 (v := 60) rfl ?_
  refine C_ap (N := 142) (t := 0) (n := 60) (cells' := 25) (slots' := 10127) (ty := .array .int) he hC25 hlo25 (by decide) dX11_init_208 dX11_init_210 cl_11 fl_X11_87 rfl (by decide +kernel) (fun _ => ⟨rfl, rfl⟩) rfl (by decide) ac_0 rfl (by decide) (by decide) (by decide) (by decide) rfl rfl (fun _ => rfl) rfl rfl (by decide) rfl (by decide) ?_
  intro H26 locs26 hC26 hlo26
  refine lv_aload_n hx hb dX11_init_213 rfl ha ?_
  refine lv_bipush hx hb dX11_init_214 (v := 60) rfl ?_
  refine C_ap (N := 143) (t := 0) (n := 60) (cells' := 26) (slots' := 10187) (ty := .array .int) he hC26 hlo26 (by decide) dX11_init_216 dX11_init_218 cl_11 fl_X11_90 rfl (by decide +kernel) (fun _ => ⟨rfl, rfl⟩) rfl (by decide) ac_0 rfl (by decide) (by decide) (by decide) (by decide) rfl rfl (fun _ => rfl) rfl rfl (by decide) rfl (by decide) ?_
  intro H27 locs27 hC27 hlo27
  refine lv_aload_n hx hb dX11_init_221 rfl ha ?_
  refine lv_bipush hx hb dX11_init_222 (v := 10) rfl ?_
  refine C_ap (N := 144) (t := 0) (n := 10) (cells' := 27) (slots' := 10197) (ty := .array .int) he hC27 hlo27 (by decide) dX11_init_224 dX11_init_226 cl_11 fl_X11_93 rfl (by decide +kernel) (fun _ => ⟨rfl, rfl⟩) rfl (by decide) ac_0 rfl (by decide) (by decide) (by decide) (by decide) rfl rfl (fun _ => rfl) rfl rfl (by decide) rfl (by decide) ?_
  intro H28 locs28 hC28 hlo28
  refine lv_aload_n hx hb dX11_init_229 rfl ha ?_
  refine lv_bipush hx hb dX11_init_230 (v := 10) rfl ?_
  refine C_ap (N := 145) (t := 0) (n := 10) (cells' := 28) (slots' := 10207) (ty := .array .int) he hC28 hlo28 (by decide) dX11_init_232 dX11_init_234 cl_11 fl_X11_96 rfl (by decide +kernel) (fun _ => ⟨rfl, rfl⟩) rfl (by decide) ac_0 rfl (by decide) (by decide) (by decide) (by decide) rfl rfl (fun _ => rfl) rfl rfl (by decide) rfl (by decide) ?_
  intro H29 locs29 hC29 hlo29
  refine lv_aload_n hx hb dX11_init_237 rfl ha ?_
  refine lv_bipush hx hb dX11_init_238 (v := 10) rfl ?_
  refine C_ap (N := 146) (t := 0) (n := 10) (cells' := 29) (slots' := 10217) (ty := .array .int) he hC29 hlo29 (by decide) dX11_init_240 dX11_init_242 cl_11 fl_X11_99 rfl (by decide +kernel) (fun _ => ⟨rfl, rfl⟩) rfl (by decide) ac_0 rfl (by decide) (by decide) (by decide) (by decide) rfl rfl (fun _ => rfl) rfl rfl (by decide) rfl (by decide) ?_
  intro H30 locs30 hC30 hlo30
  refine lv_aload_n hx hb dX11_init_245 rfl ha ?_
  refine lv_bipush hx hb dX11_init_246 (v := 10) rfl ?_
  refine C_ap (N := 147) (t := 0) (n := 10) (cells' := 30) (slots' := 10227) (ty := .array .int) he hC30 hlo30 (by decide) dX11_init_248 dX11_init_250 cl_11 fl_X11_102 rfl (by decide +kernel) (fun _ => ⟨rfl, rfl⟩) rfl (by decide) ac_0 rfl (by decide) (by decide) (by decide) (by decide) rfl rfl (fun _ => rfl) rfl rfl (by decide) rfl (by decide) ?_
  intro H31 locs31 hC31 hlo31
  refine lv_aload_n hx hb dX11_init_253 rfl ha ?_
  refine lv_sipush hx hb dX11_init_254 (v := 488) rfl ?_
  refine C_ap (N := 148) (t := 0) (n := 488) (cells' := 31) (slots' := 10715) (ty := .array .int) he hC31 hlo31 (by decide) dX11_init_257 dX11_init_259 cl_11 fl_X11_105 rfl (by decide +kernel) (fun _ => ⟨rfl, rfl⟩) rfl (by decide) ac_0 rfl (by decide) (by decide) (by decide) (by decide) rfl rfl (fun _ => rfl) rfl rfl (by decide) rfl (by decide) ?_
  intro H32 locs32 hC32 hlo32
  refine lv_aload_n hx hb dX11_init_262 rfl ha ?_
  refine lv_sipush hx hb dX11_init_263 (v := 4880) rfl ?_
  refine C_ap (N := 149) (t := 0) (n := 4880) (cells' := 32) (slots' := 15595) (ty := .array .int) he hC32 hlo32 (by decide) dX11_init_266 dX11_init_268 cl_11 fl_X11_108 rfl (by decide +kernel) (fun _ => ⟨rfl, rfl⟩) rfl (by decide) ac_0 rfl (by decide) (by decide) (by decide) (by decide) rfl rfl (fun _ => rfl) rfl rfl (by decide) rfl (by decide) ?_
  intro H33 locs33 hC33 hlo33
  refine lv_aload_n hx hb dX11_init_271 rfl ha ?_
  refine lv_bipush hx hb dX11_init_272 (v := 10) rfl ?_
  refine C_ap (N := 150) (t := 0) (n := 10) (cells' := 33) (slots' := 15605) (ty := .array .int) he hC33 hlo33 (by decide) dX11_init_274 dX11_init_276 cl_11 fl_X11_111 rfl (by decide +kernel) (fun _ => ⟨rfl, rfl⟩) rfl (by decide) ac_0 rfl (by decide) (by decide) (by decide) (by decide) rfl rfl (fun _ => rfl) rfl rfl (by decide) rfl (by decide) ?_
  intro H34 locs34 hC34 hlo34
  refine lv_aload_n hx hb dX11_init_279 rfl ha ?_
  refine lv_sipush hx hb dX11_init_280 (v := 488) rfl ?_
  refine C_ap (N := 151) (t := 0) (n := 488) (cells' := 34) (slots' := 16093) (ty := .array .int) he hC34 hlo34 (by decide) dX11_init_283 dX11_init_285 cl_11 fl_X11_114 rfl (by decide +kernel) (fun _ => ⟨rfl, rfl⟩) rfl (by decide) ac_0 rfl (by decide) (by decide) (by decide) (by decide) rfl rfl (fun _ => rfl) rfl rfl (by decide) rfl (by decide) ?_
  intro H35 locs35 hC35 hlo35
  refine lv_aload_n hx hb dX11_init_288 rfl ha ?_
  refine lv_bipush hx hb dX11_init_289 (v := 10) rfl ?_
  refine C_ap (N := 152) (t := 0) (n := 10) (cells' := 35) (slots' := 16103) (ty := .array .int) he hC35 hlo35 (by decide) dX11_init_291 dX11_init_293 cl_11 fl_X11_117 rfl (by decide +kernel) (fun _ => ⟨rfl, rfl⟩) rfl (by decide) ac_0 rfl (by decide) (by decide) (by decide) (by decide) rfl rfl (fun _ => rfl) rfl rfl (by decide) rfl (by decide) ?_
  intro H36 locs36 hC36 hlo36
  refine lv_aload_n hx hb dX11_init_296 rfl ha ?_
  refine lv_sipush hx hb dX11_init_297 (v := 488) rfl ?_
  refine C_ap (N := 153) (t := 0) (n := 488) (cells' := 36) (slots' := 16591) (ty := .array .int) he hC36 hlo36 (by decide) dX11_init_300 dX11_init_302 cl_11 fl_X11_120 rfl (by decide +kernel) (fun _ => ⟨rfl, rfl⟩) rfl (by decide) ac_0 rfl (by decide) (by decide) (by decide) (by decide) rfl rfl (fun _ => rfl) rfl rfl (by decide) rfl (by decide) ?_
  intro H37 locs37 hC37 hlo37
  refine lv_aload_n hx hb dX11_init_305 rfl ha ?_
  refine lv_bipush hx hb dX11_init_306 (v := 10) rfl ?_
  refine C_ap (N := 154) (t := 0) (n := 10) (cells' := 37) (slots' := 16601) (ty := .array .int) he hC37 hlo37 (by decide) dX11_init_308 dX11_init_310 cl_11 fl_X11_123 rfl (by decide +kernel) (fun _ => ⟨rfl, rfl⟩) rfl (by decide) ac_0 rfl (by decide) (by decide) (by decide) (by decide) rfl rfl (fun _ => rfl) rfl rfl (by decide) rfl (by decide) ?_
  intro H38 locs38 hC38 hlo38
  refine lv_aload_n hx hb dX11_init_313 rfl ha ?_
  refine lv_bipush hx hb dX11_init_314 (v := 8) rfl ?_
  refine C_ap (N := 155) (t := 0) (n := 8) (cells' := 38) (slots' := 16609) (ty := .array .int) he hC38 hlo38 (by decide) dX11_init_316 dX11_init_318 cl_11 fl_X11_126 rfl (by decide +kernel) (fun _ => ⟨rfl, rfl⟩) rfl (by decide) ac_0 rfl (by decide) (by decide) (by decide) (by decide) rfl rfl (fun _ => rfl) rfl rfl (by decide) rfl (by decide) ?_
  intro H39 locs39 hC39 hlo39
  refine lv_aload_n hx hb dX11_init_321 rfl ha ?_
  refine lv_bipush hx hb dX11_init_322 (v := 60) rfl ?_
  refine C_ap (N := 156) (t := 0) (n := 60) (cells' := 39) (slots' := 16669) (ty := .array .int) he hC39 hlo39 (by decide) dX11_init_324 dX11_init_326 cl_11 fl_X11_129 rfl (by decide +kernel) (fun _ => ⟨rfl, rfl⟩) rfl (by decide) ac_0 rfl (by decide) (by decide) (by decide) (by decide) rfl rfl (fun _ => rfl) rfl rfl (by decide) rfl (by decide) ?_
  intro H40 locs40 hC40 hlo40
  refine lv_aload_n hx hb dX11_init_329 rfl ha ?_
  refine lv_bipush hx hb dX11_init_330 (v := 60) rfl ?_
  refine C_ap (N := 157) (t := 0) (n := 60) (cells' := 40) (slots' := 16729) (ty := .array .int) he hC40 hlo40 (by decide) dX11_init_332 dX11_init_334 cl_11 fl_X11_132 rfl (by decide +kernel) (fun _ => ⟨rfl, rfl⟩) rfl (by decide) ac_0 rfl (by decide) (by decide) (by decide) (by decide) rfl rfl (fun _ => rfl) rfl rfl (by decide) rfl (by decide) ?_
  intro H41 locs41 hC41 hlo41
  refine lv_aload_n hx hb dX11_init_337 rfl ha ?_
  refine lv_bipush hx hb dX11_init_338 (v := 60) rfl ?_
  refine C_ap (N := 158) (t := 0) (n := 60) (cells' := 41) (slots' := 16789) (ty := .array .int) he hC41 hlo41 (by decide) dX11_init_340 dX11_init_342 cl_11 fl_X11_135 rfl (by decide +kernel) (fun _ => ⟨rfl, rfl⟩) rfl (by decide) ac_0 rfl (by decide) (by decide) (by decide) (by decide) rfl rfl (fun _ => rfl) rfl rfl (by decide) rfl (by decide) ?_
  intro H42 locs42 hC42 hlo42
  refine lv_aload_n hx hb dX11_init_345 rfl ha ?_
  refine lv_bipush hx hb dX11_init_346 (v := 60) rfl ?_
  refine C_ap (N := 159) (t := 0) (n := 60) (cells' := 42) (slots' := 16849) (ty := .array .int) he hC42 hlo42 (by decide) dX11_init_348 dX11_init_350 cl_11 fl_X11_138 rfl (by decide +kernel) (fun _ => ⟨rfl, rfl⟩) rfl (by decide) ac_0 rfl (by decide) (by decide) (by decide) (by decide) rfl rfl (fun _ => rfl) rfl rfl (by decide) rfl (by decide) ?_
  intro H43 locs43 hC43 hlo43
  refine lv_aload_n hx hb dX11_init_353 rfl ha ?_
  refine lv_bipush hx hb dX11_init_354 (v := 60) rfl ?_
  refine C_ap (N := 160) (t := 0) (n := 60) (cells' := 43) (slots' := 16909) (ty := .array .int) he hC43 hlo43 (by decide) dX11_init_356 dX11_init_358 cl_11 fl_X11_141 rfl (by decide +kernel) (fun _ => ⟨rfl, rfl⟩) rfl (by decide) ac_0 rfl (by decide) (by decide) (by decide) (by decide) rfl rfl (fun _ => rfl) rfl rfl (by decide) rfl (by decide) ?_
  intro H44 locs44 hC44 hlo44
  refine lv_aload_n hx hb dX11_init_361 rfl ha ?_
  refine lv_bipush hx hb dX11_init_362 (v := 60) rfl ?_
  refine C_ap (N := 161) (t := 0) (n := 60) (cells' := 44) (slots' := 16969) (ty := .array .int) he hC44 hlo44 (by decide) dX11_init_364 dX11_init_366 cl_11 fl_X11_144 rfl (by decide +kernel) (fun _ => ⟨rfl, rfl⟩) rfl (by decide) ac_0 rfl (by decide) (by decide) (by decide) (by decide) rfl rfl (fun _ => rfl) rfl rfl (by decide) rfl (by decide) ?_
  intro H45 locs45 hC45 hlo45
  refine lv_aload_n hx hb dX11_init_369 rfl ha ?_
  refine lv_bipush hx hb dX11_init_370 (v := 60) rfl ?_
  refine C_ap (N := 162) (t := 0) (n := 60) (cells' := 45) (slots' := 17029) (ty := .array .int) he hC45 hlo45 (by decide) dX11_init_372 dX11_init_374 cl_11 fl_X11_147 rfl (by decide +kernel) (fun _ => ⟨rfl, rfl⟩) rfl (by decide) ac_0 rfl (by decide) (by decide) (by decide) (by decide) rfl rfl (fun _ => rfl) rfl rfl (by decide) rfl (by decide) ?_
  intro H46 locs46 hC46 hlo46
  refine lv_aload_n hx hb dX11_init_377 rfl ha ?_
  refine lv_iconst hx hb dX11_init_378 (v := 5) rfl ?_
  refine C_ap (N := 163) (t := 0) (n := 5) (cells' := 46) (slots' := 17034) (ty := .array .int) he hC46 hlo46 (by decide) dX11_init_379 dX11_init_381 cl_11 fl_X11_150 rfl (by decide +kernel) (fun _ => ⟨rfl, rfl⟩) rfl (by decide) ac_0 rfl (by decide) (by decide) (by decide) (by decide) rfl rfl (fun _ => rfl) rfl rfl (by decide) rfl (by decide) ?_
  intro H47 locs47 hC47 hlo47
  refine lv_iconst hx hb dX11_init_384 (v := 0) rfl ?_
  refine lv_istore_n hx hb dX11_init_385 rfl hL (by decide) rfl (fun lr1 hL1 => ?_)
  have e0 : gM 0 = z0 := funext fun s => if_neg (Nat.not_lt_zero s)
  refine model_loop he rfl (fun H locs lr hC hlo hL => ?_) 64 0 rfl H47 locs47 lr1 (by unfold DMo; rw [e0]; exact hC47) hlo47 hL1
  have ha := lv_at hL 1 rfl
  refine lv_aload_n hx hb dX11_init_420 rfl ha ?_
  refine C_get (sl := 4) (v := .ref (B0 + 122)) he hC dX11_init_421 cl_11 fl_X11_22 rfl ?_
  refine lv_iconst hx hb dX11_init_424 (v := 0) rfl ?_
  refine lv_bipush hx hb dX11_init_425 (v := 12) rfl ?_
  refine C_ia (j := 122) (t := 0) (n := 3) (g := z0) (N := 164) he hC hlo (by decide) (by decide) (by decide) rfl (nI_in (c := 0) (by decide) (by decide)) dX11_init_427 ?_
  intro K1 lk1 hD1 hlp1
  refine lv_aload_n hx hb dX11_init_428 rfl ha ?_
  refine C_get (sl := 4) (v := .ref (B0 + 122)) he hD1 dX11_init_429 cl_11 fl_X11_22 rfl ?_
  refine lv_iconst hx hb dX11_init_432 (v := 1) rfl ?_
  refine lv_bipush hx hb dX11_init_433 (v := 60) rfl ?_
  refine C_ia (j := 122) (t := 0) (n := 3) (g := updV z0 0 (.int 12)) (N := 164) he hD1 hlp1 (by decide) (by decide) (by decide) (updD_eq _ _ _) (nI_in (c := 1) (by decide) (by decide)) dX11_init_435 ?_
  intro K2 lk2 hD2 hlp2
  refine lv_aload_n hx hb dX11_init_436 rfl ha ?_
  refine C_get (sl := 4) (v := .ref (B0 + 122)) he hD2 dX11_init_437 cl_11 fl_X11_22 rfl ?_
  refine lv_iconst hx hb dX11_init_440 (v := 2) rfl ?_
  refine lv_bipush hx hb dX11_init_441 (v := 24) rfl ?_
  refine C_ia (j := 122) (t := 0) (n := 3) (g := updV (updV z0 0 (.int 12)) 1 (.int 60)) (N := 164) he hD2 hlp2 (by decide) (by decide) (by decide) (updD_eq _ _ _) (nI_in (c := 2) (by decide) (by decide)) dX11_init_443 ?_
  intro K3 lk3 hD3 hlp3
  have hD4 := hD3.done (j := 122) hE (by decide) (by decide) (by decide) (updD_eq _ _ _) rfl rfl (f_s (f_s (f_s f_0 rfl) rfl) rfl)
  have hD5 := hD4.done (j := 121) (n := 64) (g := gM 64) hE (by decide) (by decide) (by decide) rfl rfl rfl (fun s hs => if_pos hs)
  refine C_end (N := 164) he hD5 hlp3 (by decide) rfl dX11_init_444 rfl rfl rfl (fun j h1 h2 => ?_) (f_s (f_s (f_s (f_s (f_s (f_s (f_s (f_s (f_s (f_s (f_s (f_s (f_s (f_s (f_s (f_s (f_s (f_s (f_s (f_s (f_s (f_s (f_s (f_s (f_s (f_s (f_s (f_s (f_s (f_s (f_s (f_s (f_s (f_s (f_s (f_s (f_s (f_s (f_s (f_s (f_s (f_s (f_s (f_s (f_s (f_s (f_s (f_s (f_s (f_s (f_s (f_s (f_s (f_s (f_s (f_s (f_s (f_s (f_s (f_s (f_s (f_s (f_s (f_s (f_s (f_s (f_s (f_s (f_s (f_s f_0 (congrArg Value.ref (hE 118 (by decide)).symm)) (congrArg Value.ref (hE 119 (by decide)).symm)) (congrArg Value.ref (hE 120 (by decide)).symm)) (congrArg Value.ref (hE 121 (by decide)).symm)) (congrArg Value.ref (hE 122 (by decide)).symm)) (congrArg Value.ref (hE 123 (by decide)).symm)) (congrArg Value.ref (hE 124 (by decide)).symm)) rfl) rfl) (congrArg Value.ref (hE 125 (by decide)).symm)) (congrArg Value.ref (hE 126 (by decide)).symm)) rfl) rfl) rfl) rfl) rfl) rfl) rfl) rfl) rfl) (congrArg Value.ref (hE 127 (by decide)).symm)) (congrArg Value.ref (hE 128 (by decide)).symm)) (congrArg Value.ref (hE 129 (by decide)).symm)) (congrArg Value.ref (hE 130 (by decide)).symm)) (congrArg Value.ref (hE 131 (by decide)).symm)) (congrArg Value.ref (hE 132 (by decide)).symm)) (congrArg Value.ref (hE 133 (by decide)).symm)) (congrArg Value.ref (hE 134 (by decide)).symm)) (congrArg Value.ref (hE 135 (by decide)).symm)) (congrArg Value.ref (hE 136 (by decide)).symm)) rfl) rfl) rfl) rfl) (congrArg Value.ref (hE 137 (by decide)).symm)) rfl) rfl) (congrArg Value.ref (hE 138 (by decide)).symm)) (congrArg Value.ref (hE 139 (by decide)).symm)) (congrArg Value.ref (hE 140 (by decide)).symm)) (congrArg Value.ref (hE 141 (by decide)).symm)) (congrArg Value.ref (hE 142 (by decide)).symm)) (congrArg Value.ref (hE 143 (by decide)).symm)) rfl) (congrArg Value.ref (hE 144 (by decide)).symm)) (congrArg Value.ref (hE 145 (by decide)).symm)) (congrArg Value.ref (hE 146 (by decide)).symm)) (congrArg Value.ref (hE 147 (by decide)).symm)) (congrArg Value.ref (hE 148 (by decide)).symm)) (congrArg Value.ref (hE 149 (by decide)).symm)) (congrArg Value.ref (hE 150 (by decide)).symm)) (congrArg Value.ref (hE 151 (by decide)).symm)) (congrArg Value.ref (hE 152 (by decide)).symm)) (congrArg Value.ref (hE 153 (by decide)).symm)) (congrArg Value.ref (hE 154 (by decide)).symm)) rfl) rfl) rfl) (congrArg Value.ref (hE 155 (by decide)).symm)) rfl) (congrArg Value.ref (hE 156 (by decide)).symm)) (congrArg Value.ref (hE 157 (by decide)).symm)) (congrArg Value.ref (hE 158 (by decide)).symm)) (congrArg Value.ref (hE 159 (by decide)).symm)) (congrArg Value.ref (hE 160 (by decide)).symm)) (congrArg Value.ref (hE 161 (by decide)).symm)) (congrArg Value.ref (hE 162 (by decide)).symm)) (congrArg Value.ref (hE 163 (by decide)).symm)) rfl) rfl)
  simp only [updD, DMo, D0]
  (repeat' split) <;> (first | rfl | omega)
