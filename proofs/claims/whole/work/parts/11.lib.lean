section LIB
variable {d : Nat} {M : MI} {pc : Nat} {ls : List (Option AV)} {st : List AV} {σ : HS} {Q : Option AV → HS → Prop}
theorem EV.ldcS {idx i : Nat} {tx : String} (h : decode M.2.1 pc = .ok (.ldc idx, 2)) (hM : M.1.cls = "StoreRealm$Tokens") (hi : stTab[i]? = some (idx, tx)) (kk : EV d M (pc + 2) ls (vR 105 i :: st) σ Q) : EV d M pc ls st σ Q := by
  intro E p l e s m args below meth c H locs lr he hR hS hL
  have hw := kk E p l e s m args below meth c H locs lr he hR hS hL
  obtain ⟨hx, hb, hml, hret, hown, hts, hlocks, hI, hK⟩ := he
  rw [hM] at hown
  exact va_ldcS hx hb hown (hK.2.2.2.2.2.2 i _ hi) h hw
theorem EV.strValue {idx i : Nat} (h : decode M.2.1 pc = .ok (.getfield idx, 3)) (hl : Cond.fieldLink M.1.cls idx "java/lang/String" "value" "[B" ∈ WALL) (hi : i < 15) (kk : EV d M (pc + 3) ls (vR 106 i :: st) σ Q) : EV d M pc ls (vR 105 i :: st) σ Q := by
  intro E p l e s m args below meth c H locs lr he hR hS hL
  have hw := kk E p l e s m args below meth c H locs lr he hR hS hL
  obtain ⟨hx, hb, hml, hret, hown, hts, hlocks, hI, hK⟩ := he
  exact vk_getf hx hb (hK.2.2.2.1.1 i hi).2.2.1 hS hown (hts _ hl) (fun _ h => h) h hw
theorem EV.strCoder {idx i : Nat} (h : decode M.2.1 pc = .ok (.getfield idx, 3)) (hl : Cond.fieldLink M.1.cls idx "java/lang/String" "coder" "B" ∈ WALL) (hi : i < 15) (kk : EV d M (pc + 3) ls (vI 0 :: st) σ Q) : EV d M pc ls (vR 105 i :: st) σ Q := by
  intro E p l e s m args below meth c H locs lr he hR hS hL
  have hw := kk E p l e s m args below meth c H locs lr he hR hS hL
  obtain ⟨hx, hb, hml, hret, hown, hts, hlocks, hI, hK⟩ := he
  exact vk_getf hx hb (hK.2.2.2.1.1 i hi).2.1 hS hown (hts _ hl) (fun _ h => h) h hw
theorem EV.strLen {i : Nat} {v : Int32} (h : decode M.2.1 pc = .ok (.arraylength, 1)) (hi : i < 15) (hv : Int32.ofNat (stLen.getD i 0) = v) (kk : EV d M (pc + 1) ls (vI v :: st) σ Q) : EV d M pc ls (vR 106 i :: st) σ Q := by
  intro E p l e s m args below meth c H locs lr he hR hS hL
  have hw := kk E p l e s m args below meth c H locs lr he hR hS hL
  obtain ⟨hx, hb, hml, hret, hown, hts, hlocks, hI, hK⟩ := he
  exact va_tlen hx hb (hK.2.2.2.1.1 i hi).2.2.2 hS hv h hw
theorem EV.strByte {i : Nat} {x : Int32} (h : decode M.2.1 pc = .ok (.baload, 1)) (hi : i < 15) (hin : vp_in x (stLen.getD i 0)) (kk : EV d M (pc + 1) ls (vI ((stByt.getD i []).getD x.toNatClampNeg 0) :: st) σ Q) : EV d M pc ls (vI x :: vR 106 i :: st) σ Q := by
  intro E p l e s m args below meth c H locs lr he hR hS hL
  have hw := kk E p l e s m args below meth c H locs lr he hR hS hL
  obtain ⟨hx, hb, hml, hret, hown, hts, hlocks, hI, hK⟩ := he
  exact va_tb hx hb (hK.2.2.2.1.1 i hi).2.2.2 hS hin rfl h hw
theorem EV.gsCS {idx : Nat} (h : decode M.2.1 pc = .ok (.getstatic idx, 3)) (hl : Cond.fieldLink M.1.cls idx "java/lang/String" "COMPACT_STRINGS" "Z" ∈ WALL) (kk : EV d M (pc + 3) ls (vI 1 :: st) σ Q) : EV d M pc ls st σ Q := by
  intro E p l e s m args below meth c H locs lr he hR hS hL
  have hw := kk E p l e s m args below meth c H locs lr he hR hS hL
  obtain ⟨hx, hb, hml, hret, hown, hts, hlocks, hI, hK⟩ := he
  exact va_gets hx hb hK.2.2.2.2.1 hS hown (hts _ hl) (fun _ h => h) h hw
theorem EV.callStr {idx n i : Nat} {M' : MI} {As st' : List AV} {Q' : Option AV → HS → Prop} (h : decode M.2.1 pc = .ok (.invokevirtual idx, 3)) (hd : 1 ≤ d) (hm : MLV M.1.cls idx M' n) (hn : As.length = n) (hln : (entS (vR 105 i :: As)).length ≤ M'.2.2.1) (hi : i < 15) (hcl : M'.1.cls = "java/lang/String") (hrest : (st.map catA).sum ≤ 8) (hst : st' = As.reverse ++ vR 105 i :: st)
    (hMT : MT (d - 1) M' (vR 105 i :: As) σ Q') (kk : ∀ (rv : Option AV) (σ' : HS), Q' rv σ' → EV d M (pc + 3) ls (rv.toList ++ st) σ' Q) : EV d M pc ls st' σ Q := by
  subst hst
  intro E p l e s m args below meth c H locs lr he hR hS hL
  have he0 := he
  obtain ⟨hx, hb, hml, hret, hown, hts, hlocks, hI, hK⟩ := he
  have hKH : KK E s H := hK.go (State.WarmedH.refl s) hS.2.1
  have e1 : (As.reverse ++ vR 105 i :: st).map (tv E) = (As.map (tv E)).reverse ++ .ref (E.2.2 105 i) :: st.map (tv E) := by rw [List.map_append, List.map_reverse]; rfl
  rw [e1]
  obtain ⟨h0, hl, hin, hse⟩ := hm
  obtain ⟨b1, b2, b3, b4, b5⟩ := h0.base (R := rmD d) hd hts (Nat.le_refl _) (Nat.le_refl _)
  obtain ⟨cell, q1, q2, q3⟩ := vk_recv hK.2.2.2.1 hi hS
  refine run_go (Q := Q') (rest := st.map (tv E)) (va_runV (Ts := WALL) (C := M'.1.cls) (bytes := M'.2.1) (maxL := M'.2.2.1) (ret := M'.2.2.2) ⟨hx, hb, hml, hown, hts⟩ (hMT.met h0.2.2.2.1 hln E hI l) ⟨⟨b1.1, b1.2.1, b1.2.2.1, b1.2.2.2.1, b1.2.2.2.2.1, b1.2.2.2.2.2, b2, b3, b4, b5, hts _ hl⟩, hts _ hin, hts _ hse⟩
    ⟨blind, ⟨cell, q1, q2, by rw [hcl]; exact q3⟩, fun U hU hW => ⟨rfl, by rw [hU]; exact hR, by rw [hU]; exact hKH.go hW (fun _ _ _ => rfl)⟩⟩ rfl (by rw [List.length_map]; exact hn) hL.1 rfl (lv_room (by rw [tv_cats]; exact hrest)) h ⟨Nat.le_refl _, Nat.le_refl _⟩) hS (fun _ h => h) (fun rv σ' H1 locs1 hq hR1 hS1 _ _ => ?_)
  have := kk rv σ' hq E p l e s m args below meth c H1 locs1 lr he0 hR1 hS1 hL
  rwa [List.map_append] at this
end LIB
theorem fl_sv : Cond.fieldLink RJ0 9 "java/lang/String" "value" "[B" ∈ WALL := in_place 1434 (by decide +kernel) rfl
theorem fl_sc : Cond.fieldLink RJ0 15 "java/lang/String" "coder" "B" ∈ WALL := in_place 1435 (by decide +kernel) rfl
theorem fl_cs : Cond.fieldLink RJ0 38 "java/lang/String" "COMPACT_STRINGS" "Z" ∈ WALL := in_place 597 (by decide +kernel) rfl
theorem fl_sf : Cond.fieldLink RJ0 1053 "jdk/internal/util/Preconditions" "SIOOBE_FORMATTER" "Ljava/util/function/BiFunction;" ∈ WALL := in_place 613 (by decide +kernel) rfl
theorem pu_coder (d i : Nat) (σ : HS) (Q : Option AV → HS → Prop) (hi : i < 15) (h : Q (some (vI 0)) σ) : MT d mJ0_coder_7d493 [vR 105 i] σ Q :=
  show EV d mJ0_coder_7d493 0 [some (vR 105 i)] [] σ Q from
  EV.gsCS (pc := 0) dJ0_coder_7d493_0 fl_cs <| EV.if_eq (pc := 3) (tgt := 13) dJ0_coder_7d493_3 (by decide) (fun q => absurd q (by decide)) (fun _ => EV.aload_n (pc := 6) dJ0_coder_7d493_6 rfl <| EV.strCoder (pc := 7) dJ0_coder_7d493_7 fl_sc hi <| EV.goto (pc := 10) (tgt := 14) dJ0_coder_7d493_10 (by decide) <| EV.zret (ty := .byte) (pc := 14) dJ0_coder_7d493_14 rfl rfl h)
theorem pu_isLatin1 (d i : Nat) (σ : HS) (Q : Option AV → HS → Prop) (hi : i < 15) (h : Q (some (vI 1)) σ) : MT d mJ0_isLatin1_aae02 [vR 105 i] σ Q :=
  show EV d mJ0_isLatin1_aae02 0 [some (vR 105 i)] [] σ Q from
  EV.gsCS (pc := 0) dJ0_isLatin1_aae02_0 fl_cs <| EV.if_eq (pc := 3) (tgt := 17) dJ0_isLatin1_aae02_3 (by decide) (fun q => absurd q (by decide)) (fun _ => EV.aload_n (pc := 6) dJ0_isLatin1_aae02_6 rfl <| EV.strCoder (pc := 7) dJ0_isLatin1_aae02_7 fl_sc hi <| EV.if_ne (pc := 10) (tgt := 17) dJ0_isLatin1_aae02_10 (by decide) (fun q => absurd rfl q) (fun _ => EV.iconst (v := 1) (pc := 13) dJ0_isLatin1_aae02_13 rfl <| EV.goto (pc := 14) (tgt := 18) dJ0_isLatin1_aae02_14 (by decide) <| EV.zret (ty := .boolean) (pc := 18) dJ0_isLatin1_aae02_18 rfl rfl h))
theorem pu_length (d i : Nat) (σ : HS) (Q : Option AV → HS → Prop) (hd : 1 ≤ d) (hi : i < 15) (h : Q (some (vI (Int32.ofNat (stLen.getD i 0)))) σ) : MT d mJ0_length_8abf5 [vR 105 i] σ Q :=
  show EV d mJ0_length_8abf5 0 [some (vR 105 i)] [] σ Q from
  EV.aload_n (pc := 0) dJ0_length_8abf5_0 rfl <| EV.strValue (pc := 1) dJ0_length_8abf5_1 fl_sv hi <| EV.strLen (pc := 4) dJ0_length_8abf5_4 hi rfl <| EV.aload_n (pc := 5) dJ0_length_8abf5_5 rfl <|
  EV.callStr (pc := 6) (As := []) (Q' := fun r σ2 => r = some (vI 0) ∧ σ2 = σ) dJ0_length_8abf5_6 hd ml_J0_335 rfl (Nat.le_of_ble_eq_true rfl) hi rfl (Nat.le_of_ble_eq_true rfl) rfl (pu_coder (d - 1) i σ _ hi ⟨rfl, rfl⟩) (fun rv σ2 h2 => by
    obtain ⟨rfl, rfl⟩ := h2
    exact EV.ishr (pc := 9) dJ0_length_8abf5_9 (EV.iret (pc := 10) dJ0_length_8abf5_10 rfl (by rw [sb_shr0]; exact h)))
/-- Preconditions.checkIndex, whatever the formatter is -/
theorem met_pci (l : Launch) (E : EE) (d : Nat) (v : Value) (hv : v.category = 1) (i n : Int32) (h0 : ¬ i < 0) (h1 : i < n) (σ : HS) : Met l yJ3_checkIndex_8e157 (Cond.code yJ3_checkIndex_8e157 cJ3_checkIndex_8e157 3 (some .int) :: WALL) (rmD d) (va_Pc [.int i, .int n, v] (fun U => Rep E σ U.heap ∧ KK E U U.heap)) (QC E (fun r σ2 => r = some (vI i) ∧ σ2 = σ)) 0 0 (Reg E) := by
  refine Met.ofW (cc := cJ3_checkIndex_8e157) (maxL := 3) (ret := some .int) (by decide +kernel) rfl ?_
  intro p e s m args below meth c s₁ B hml hv2
  obtain ⟨rfl, hR, hK⟩ := hv2
  have hx := B.exec
  have hb := B.bytes
  have hr := B.returns
  have hlocks := B.notSynchronized
  have hl3 : (lg_sl [Value.int i, Value.int n, v]).length = 3 := by
    show ((if (Value.int i).category = 2 then [Slot.val (.int i), .second] else [Slot.val (.int i)]) ++ ((if (Value.int n).category = 2 then [Slot.val (.int n), .second] else [Slot.val (.int n)]) ++ ((if v.category = 2 then [Slot.val v, .second] else [Slot.val v]) ++ []))).length = 3
    rw [hv]
    rfl
  have hl := lv_entry ([.int i, .int n, v]) (n := 3) (Nat.le_of_eq hl3)
  rw [lg_entry_eq]
  generalize (lg_sl ([.int i, .int n, v]) ++ List.replicate (3 - (lg_sl ([.int i, .int n, v])).length) Slot.unset).toArray = ls at hl ⊢
  have hl : lv_has ls 3 [(0, .int i), (1, .int n), (2, v)] := hl
  refine lv_iload_n hx hb dJ3_checkIndex_8e157_0 rfl (lv_at hl 0 rfl) ?_
  refine lv_if_lt (tgt := 9) hx hb dJ3_checkIndex_8e157_1 (by decide) (fun q => absurd q h0) (fun _ => ?_)
  refine lv_iload_n hx hb dJ3_checkIndex_8e157_4 rfl (lv_at hl 0 rfl) ?_
  refine lv_iload_n hx hb dJ3_checkIndex_8e157_5 rfl (lv_at hl 1 rfl) ?_
  refine lv_icmp_lt (tgt := 16) hx hb dJ3_checkIndex_8e157_6 (by decide) (fun _ => ?_) (fun q => absurd h1 q)
  refine lv_iload_n hx hb dJ3_checkIndex_8e157_16 rfl (lv_at hl 0 rfl) ?_
  exact W.iret (v := i) hx hb hr (fun t ht hW => ⟨⟨some (vI i), σ, rfl, ⟨rfl, rfl⟩, by rw [ht]; exact hR, by rw [ht]; exact hK.go hW (fun _ _ _ => rfl)⟩, (va_S.rf (A := Reg E)).F ht⟩) (fun _ h => by cases h) dJ3_checkIndex_8e157_17 hlocks
theorem pci_code : Cond.code yJ3_checkIndex_8e157 cJ3_checkIndex_8e157 3 (some .int) ∈ WALL := in_place 617 (by decide +kernel) rfl
theorem pci_link : Cond.methodLink RJ0 1059 yJ3_checkIndex_8e157 ∈ WALL := in_place 615 (by decide +kernel) rfl
theorem pci_stat : Cond.static yJ3_checkIndex_8e157 ∈ WALL := in_place 616 (by decide +kernel) rfl
theorem pci_init : Cond.initialized "jdk/internal/util/Preconditions" ∈ WALL := in_place 83 (by decide +kernel) rfl
theorem pci_0 : ML0 (yJ3_checkIndex_8e157, cJ3_checkIndex_8e157, 3, some .int) 3 := ⟨pci_code, pci_init, ⟨by decide +kernel, by decide +kernel, by decide +kernel⟩, by decide +kernel, by decide⟩
theorem pu_checkIndex (d : Nat) (i n : Int32) (σ : HS) (Q : Option AV → HS → Prop) (hd : 1 ≤ d) (h0 : ¬ i < 0) (h1 : i < n) (h : Q none σ) : MT d mJ0_checkIndex_df160 [vI i, vI n] σ Q := by
  show EV d mJ0_checkIndex_df160 0 [some (vI i), some (vI n)] [] σ Q
  refine EV.iload_n (pc := 0) dJ0_checkIndex_df160_0 rfl <| EV.iload_n (pc := 1) dJ0_checkIndex_df160_1 rfl <| ?_
  have k8 : EV d mJ0_checkIndex_df160 8 [some (vI i), some (vI n)] [vI i] σ Q := EV.pop (pc := 8) dJ0_checkIndex_df160_8 rfl <| EV.vret (pc := 9) dJ0_checkIndex_df160_9 rfl h
  intro E p l e s m args below meth c H locs lr he hR hS hL
  have he0 := he
  obtain ⟨hx, hb, hml, hret, hown, hts, hlocks, hI, hK⟩ := he
  have hKH : KK E s H := hK.go (State.WarmedH.refl s) hS.2.1
  obtain ⟨b1, b2, b3, b4, b5⟩ := pci_0.base (R := rmD d) hd hts (Nat.le_refl _) (Nat.le_refl _)
  have key : ∀ v : Value, v.category = 1 → va_Z "jdk/internal/util/Preconditions" "SIOOBE_FORMATTER" "Ljava/util/function/BiFunction;" v (Reg E) s s.heap → W p l e (rmD d) s m args below meth c H locs 0 0 (MQ below (QC E Q) args s 0 0 (Reg E)) (F0 m 2 lr [.int n, .int i]) := by
    intro v hc hz
    refine va_gets (v := v) hx hb hz hS hown (hts _ fl_sf) (fun _ h => h) dJ0_checkIndex_df160_2 ?_
    refine run_go (Q := fun r σ2 => r = some (vI i) ∧ σ2 = σ) (rest := []) (va_runS (Ts := WALL) (As := [.int i, .int n, v]) (bytes := cJ3_checkIndex_8e157) (maxL := 3) (ret := some .int) ⟨hx, hb, hml, hown, hts⟩ (met_pci l E (d - 1) v hc i n h0 h1 σ) ⟨⟨b1.1, b1.2.1, b1.2.2.1, b1.2.2.2.1, b1.2.2.2.2.1, b1.2.2.2.2.2, b2, b3, b4, b5, hts _ pci_link⟩, hts _ pci_stat⟩
      ⟨blind, fun U hU hW => ⟨rfl, by rw [hU]; exact hR, by rw [hU]; exact hKH.go hW (fun _ _ _ => rfl)⟩⟩ rfl rfl hL.1 rfl (lv_room (Nat.le_of_ble_eq_true rfl)) dJ0_checkIndex_df160_5 ⟨Nat.le_refl _, Nat.le_refl _⟩) hS (fun _ h => h) (fun rv σ' H1 locs1 hq hR1 hS1 _ _ => ?_)
    obtain ⟨rfl, rfl⟩ := hq
    exact k8 E p l e s m args below meth c H1 locs1 lr he0 hR1 hS1 hL
  rcases hK.2.2.2.2.2.1 with hz | ⟨t, hz⟩
  · exact key _ rfl hz
  · exact key _ rfl hz
def sch (i k : Nat) : Int32 := (stByt.getD i []).getD k 0
theorem sch_all : ∀ i, i < 15 → (stLen.getD i 0 ≤ 8 ∧ ∀ k, k < stLen.getD i 0 → ((sch i k &&& 255).toUInt32 % 65536).toInt32 = sch i k ∧ narrow .char (.int (sch i k)) = .int (sch i k)) := by decide +kernel
theorem pu_lat (d i k : Nat) (σ : HS) (Q : Option AV → HS → Prop) (hd : 2 ≤ d) (hi : i < 15) (hk : k < stLen.getD i 0) (h : Q (some (vI (sch i k))) σ) : MT d mJ1_charAt_3b067 [vR 106 i, vI (nI k)] σ Q := by
  obtain ⟨h8, ha⟩ := sch_all i hi
  obtain ⟨hc1, hc2⟩ := ha k hk
  show EV d mJ1_charAt_3b067 0 [some (vR 106 i), some (vI (nI k))] [] σ Q
  refine EV.iload_n (pc := 0) dJ1_charAt_3b067_0 rfl <| EV.aload_n (pc := 1) dJ1_charAt_3b067_1 rfl <| EV.strLen (pc := 2) dJ1_charAt_3b067_2 hi rfl <| EV.callS (pc := 3) (As := [vI (nI k), vI (Int32.ofNat (stLen.getD i 0))]) (st := []) (Q' := fun r σ2 => r = none ∧ σ2 = σ) dJ1_charAt_3b067_3 (by omega) ml_J1_9 rfl (Nat.le_of_ble_eq_true rfl) (Nat.le_of_ble_eq_true rfl) rfl (pu_checkIndex (d - 1) (nI k) _ σ _ (by omega) (nI_pos (by omega)) (nI_lt hk (by omega)) ⟨rfl, rfl⟩) (fun rv σ2 h2 => ?_)
  obtain ⟨rfl, rfl⟩ := h2
  refine EV.aload_n (pc := 6) dJ1_charAt_3b067_6 rfl <| EV.iload_n (pc := 7) dJ1_charAt_3b067_7 rfl <| EV.strByte (pc := 8) dJ1_charAt_3b067_8 hi (vp_in_nI hk (by omega)) <| EV.sipush (v := 255) (pc := 9) dJ1_charAt_3b067_9 rfl <| EV.iand (pc := 12) dJ1_charAt_3b067_12 <| EV.i2c (v := sch i k) (pc := 13) dJ1_charAt_3b067_13 ?_ <| EV.zret (ty := .char) (pc := 14) dJ1_charAt_3b067_14 rfl hc2 h
  rw [nI_clamp (by omega)]
  exact hc1
theorem pu_charAt (d i k : Nat) (σ : HS) (Q : Option AV → HS → Prop) (hd : 3 ≤ d) (hi : i < 15) (hk : k < stLen.getD i 0) (h : Q (some (vI (sch i k))) σ) : MT d mJ0_charAt_5068e [vR 105 i, vI (nI k)] σ Q := by
  show EV d mJ0_charAt_5068e 0 [some (vR 105 i), some (vI (nI k))] [] σ Q
  obtain ⟨h8, ha⟩ := sch_all i hi
  obtain ⟨hc1, hc2⟩ := ha k hk
  refine EV.aload_n (pc := 0) dJ0_charAt_5068e_0 rfl <| EV.callStr (pc := 1) (As := []) (st := []) (Q' := fun r σ2 => r = some (vI 1) ∧ σ2 = σ) dJ0_charAt_5068e_1 (by omega) ml_J0_492 rfl (Nat.le_of_ble_eq_true rfl) hi rfl (Nat.le_of_ble_eq_true rfl) rfl (pu_isLatin1 (d - 1) i σ _ hi ⟨rfl, rfl⟩) (fun rv σ2 h2 => ?_)
  obtain ⟨rfl, rfl⟩ := h2
  refine EV.if_eq (pc := 4) (tgt := 16) dJ0_charAt_5068e_4 (by decide) (fun q => absurd q (by decide)) (fun _ => EV.aload_n (pc := 7) dJ0_charAt_5068e_7 rfl <| EV.strValue (pc := 8) dJ0_charAt_5068e_8 fl_sv hi <| EV.iload_n (pc := 11) dJ0_charAt_5068e_11 rfl <| EV.callS (pc := 12) (As := [vR 106 i, vI (nI k)]) (st := []) (Q' := fun r σ3 => r = some (vI (sch i k)) ∧ σ3 = σ2) dJ0_charAt_5068e_12 (by omega) ml_J0_495 rfl (Nat.le_of_ble_eq_true rfl) (Nat.le_of_ble_eq_true rfl) rfl (pu_lat (d - 1) i k σ2 _ (by omega) hi hk ⟨rfl, rfl⟩) (fun rv σ3 h3 => ?_))
  obtain ⟨rfl, rfl⟩ := h3
  exact EV.zret (ty := .char) (pc := 15) dJ0_charAt_5068e_15 rfl hc2 h
