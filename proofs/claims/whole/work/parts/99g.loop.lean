/-! the law: its loop, its start -/
section LAWL
variable {p : Program} {l : Launch} {e : Env} {s : State} {m : MethodId} {args : Array Value} {below : List Frame} {meth : Method} {c : Code} {Z : State → Prop} {E : EE} {b L : Nat} {xs : Nat → Int32}
theorem law_loop (he : LWe E b L xs p s m args c) (kk : ∀ (H : Heap) (locs : List Loc) (lr : Array Slot), va_S (fun q => s.heap.size ≤ q) s.heap H locs → W p l e room_1 s m args below meth c H locs 164 26813 Z (F0 m 962 lr [])) :
    ∀ (f n : Nat), L ≤ n + f → n ≤ 3100 → ∀ (σ : HS) (H : Heap) (locs : List Loc) (lr : Array Slot), Inv σ → Rep E σ H → va_S (fun q => s.heap.size ≤ q) s.heap H locs → lv_has lr 4 [(3, .int (nI n)), (2, .ref (E.2.2 0 0)), (1, .ref (E.2.2 1 0)), (0, .ref b)] → W p l e room_1 s m args below meth c H locs 164 26813 Z (F0 m 18 lr []) := by
  have he0 := he
  obtain ⟨hx, hb, hml, hown, hts, hI, hK, hX, hbl, hReg, hL3⟩ := he
  have hbA : ¬ (fun q => s.heap.size ≤ q) b := fun z => by
    have : s.heap.size ≤ b := z
    omega
  intro f
  induction f with
  | zero =>
    intro n hf hn σ H locs lr hi hR hS hL
    refine lv_iload_n hx hb dL_law_18 rfl (lv_at hL 0 rfl) ?_
    refine lv_aload_n hx hb dL_law_19 rfl (lv_at hL 3 rfl) ?_
    refine va_slen hx hb hX hbl hbA hS dL_law_20 ?_
    refine lv_bipush hx hb dL_law_21 (v := nI 6) rfl ?_
    refine lv_isub hx hb dL_law_23 ?_
    refine lv_icmp_gt hx hb dL_law_24 (tgt := 962) rfl (fun _ => kk H locs lr hS) (fun z => absurd ?_ z)
    rw [Int32.lt_iff_toInt_lt, nI_toInt (by omega)]
    have : (nI L - nI 6).toInt = (L : Int) - 6 := pk_sub_toInt (by omega) (by omega)
    rw [show Int32.ofNat L = nI L from rfl, this]
    omega
  | succ f ih =>
    intro n hf hn σ H locs lr hi hR hS hL
    refine lv_iload_n hx hb dL_law_18 rfl (lv_at hL 0 rfl) ?_
    refine lv_aload_n hx hb dL_law_19 rfl (lv_at hL 3 rfl) ?_
    refine va_slen hx hb hX hbl hbA hS dL_law_20 ?_
    refine lv_bipush hx hb dL_law_21 (v := nI 6) rfl ?_
    refine lv_isub hx hb dL_law_23 ?_
    have hsub : (nI L - nI 6).toInt = (L : Int) - 6 := pk_sub_toInt (by omega) (by omega)
    refine lv_icmp_gt hx hb dL_law_24 (tgt := 962) rfl (fun _ => kk H locs lr hS) (fun z => ?_)
    have hn6 : n + 6 ≤ L := by
      rw [Int32.lt_iff_toInt_lt, nI_toInt (by omega), show Int32.ofNat L = nI L from rfl, hsub] at z
      omega
    have back : ∀ (σ2 : HS) (H2 : Heap) (locs2 : List Loc), Inv σ2 → Rep E σ2 H2 → va_S (fun q => s.heap.size ≤ q) s.heap H2 locs2 → W p l e room_1 s m args below meth c H2 locs2 164 26813 Z (F0 m 956 lr []) := by
      intro σ2 H2 locs2 hi2 hR2 hS2
      refine lv_iinc (k := 0) hx hb dL_law_956 hL rfl (v := nI (n + 6)) (nI_add n 6) (by decide) rfl (fun lr2 hL2 => ?_)
      refine lv_goto hx hb dL_law_959 (tgt := 18) rfl ?_
      exact ih (n + 6) (by omega) (by omega) σ2 H2 locs2 lr2 hi2 hR2 hS2 hL2
    refine lv_aload_n hx hb dL_law_27 rfl (lv_at hL 3 rfl) ?_
    refine lv_iload_n hx hb dL_law_28 rfl (lv_at hL 0 rfl) ?_
    refine va_sld hx hb hX hbl hbA hS (nI_in (c := n) (N := L) (by omega) (by omega)) dL_law_29 ?_
    refine lv_bipush hx hb dL_law_30 (v := 31) rfl ?_
    refine lv_iand hx hb dL_law_32 ?_
    obtain ⟨j, hj, ej⟩ := pk_andE (xs (nI n).toNatClampNeg) (m := 31) 5 (by decide)
    rw [ej]
    have sw : ∀ j, j < 24 → W p l e room_1 s m args below meth c H locs 164 26813 Z (F0 m 33 lr [.int (nI j)]) := (f_s (f_s (f_s (f_s (f_s (f_s (f_s (f_s (f_s (f_s (f_s (f_s (f_s (f_s (f_s (f_s (f_s (f_s (f_s (f_s (f_s (f_s (f_s (f_s f_0 (lv_tableIn hx hb dL_law_33 (by decide) (by decide) rfl (tgt := 144) rfl (cs_town he0 hS hL hn6 hi hR back))) (lv_tableIn hx hb dL_law_33 (by decide) (by decide) rfl (tgt := 187) rfl (cs_way he0 hS hL hn6 hi hR back))) (lv_tableIn hx hb dL_law_33 (by decide) (by decide) rfl (tgt := 230) rfl (cs_keeps he0 hS hL hn6 hi hR back))) (lv_tableIn hx hb dL_law_33 (by decide) (by decide) rfl (tgt := 263) rfl (cs_put he0 hS hL hn6 hi hR back))) (lv_tableIn hx hb dL_law_33 (by decide) (by decide) rfl (tgt := 316) rfl (cs_take he0 hS hL hn6 hi hR back))) (lv_tableIn hx hb dL_law_33 (by decide) (by decide) rfl (tgt := 359) rfl (cs_stock he0 hS hL hn6 hi hR back))) (lv_tableIn hx hb dL_law_33 (by decide) (by decide) rfl (tgt := 402) rfl (cs_feed he0 hS hL hn6 hi hR back))) (lv_tableIn hx hb dL_law_33 (by decide) (by decide) rfl (tgt := 465) rfl (cs_end he0 hS hL hn6 hi hR back))) (lv_tableIn hx hb dL_law_33 (by decide) (by decide) rfl (tgt := 488) rfl (cs_orders he0 hS hL hn6 hi hR back))) (lv_tableIn hx hb dL_law_33 (by decide) (by decide) rfl (tgt := 501) rfl (cs_fault he0 hS hL hn6 hi hR back))) (lv_tableIn hx hb dL_law_33 (by decide) (by decide) rfl (tgt := 524) rfl (cs_months he0 hS hL hn6 hi hR back))) (lv_tableIn hx hb dL_law_33 (by decide) (by decide) rfl (tgt := 547) rfl (cs_sum he0 hS hL hn6 hi hR back))) (lv_tableIn hx hb dL_law_33 (by decide) (by decide) rfl (tgt := 570) rfl (cs_feast he0 hS hL hn6 hi hR back))) (lv_tableIn hx hb dL_law_33 (by decide) (by decide) rfl (tgt := 623) rfl (cs_cancel he0 hS hL hn6 hi hR back))) (lv_tableIn hx hb dL_law_33 (by decide) (by decide) rfl (tgt := 636) rfl (cs_fed he0 hS hL hn6 hi hR back))) (lv_tableIn hx hb dL_law_33 (by decide) (by decide) rfl (tgt := 649) rfl (cs_carried he0 hS hL hn6 hi hR back))) (lv_tableIn hx hb dL_law_33 (by decide) (by decide) rfl (tgt := 662) rfl (cs_call he0 hS hL hn6 hi hR back))) (lv_tableIn hx hb dL_law_33 (by decide) (by decide) rfl (tgt := 685) rfl (cs_gave he0 hS hL hn6 hi hR back))) (lv_tableIn hx hb dL_law_33 (by decide) (by decide) rfl (tgt := 708) rfl (cs_tell he0 hS hL hn6 hi hR back))) (lv_tableIn hx hb dL_law_33 (by decide) (by decide) rfl (tgt := 771) rfl (cs_untell he0 hS hL hn6 hi hR back))) (lv_tableIn hx hb dL_law_33 (by decide) (by decide) rfl (tgt := 794) rfl (cs_count he0 hS hL hn6 hi hR back))) (lv_tableIn hx hb dL_law_33 (by decide) (by decide) rfl (tgt := 847) rfl (cs_agree he0 hS hL hn6 hi hR back))) (lv_tableIn hx hb dL_law_33 (by decide) (by decide) rfl (tgt := 900) rfl (cs_of he0 hS hL hn6 hi hR back))) (lv_tableIn hx hb dL_law_33 (by decide) (by decide) rfl (tgt := 933) rfl (cs_about he0 hS hL hn6 hi hR back)))
    by_cases h24 : j < 24
    · exact sw j h24
    · refine lv_tableOut hx hb dL_law_33 (Or.inr ?_) (tgt := 956) rfl (back σ H locs hi hR hS)
      rw [nI_toInt (by omega)]
      omega
end LAWL
theorem law_start {p : Program} {e : Env} {s : State} {m : MethodId} {below : List Frame} {meth : Method} {c : Code} {Z : State → Prop} (l : Launch) {b L : Nat} {xs : Nat → Int32} (hL : L ≤ 3072) (hx : p.tables.exec = Jvm.exec) (hb : c.code = code) (hml : c.maxLocals = 4) (hown : s.vm.findClass RL = some m.cls) (hts : ∀ w ∈ lw_tbl, w.before #[Value.ref b] s = true) (hX : va_X b L xs s s.heap) (hbl : b < s.heap.size) (hg : (Jvm.Cond.and given_1 narrow_1).before #[Value.ref b] s = true)
    (kk : ∀ (H : Heap) (locs : List Loc) (lr : Array Slot), (∀ q ∈ locs, s.heap.size ≤ q.base) → W p l e room_1 s m #[Value.ref b] below meth c H locs 164 26813 Z (F0 m 962 lr [])) : W p l e room_1 s m #[Value.ref b] below meth c s.heap [] 0 0 Z (entryFrame m ([Value.ref b] : List Value).toArray 4) := by
  have hW : ∀ w ∈ WALL, w.before #[Value.ref b] s = true := fun w hw => hts w (List.mem_filter.mp hw).1
  obtain ⟨E, hK, hB, hE, hI, hReg⟩ := world0 hts hg
  have hl := lv_entry [.ref b] (n := 4) (show 1 ≤ 4 by decide)
  rw [lg_entry_eq]
  have eS : E.2.2 1 0 = s.heap.size + 0 := hE 0 (by decide)
  have eM : E.2.2 0 0 = s.heap.size + 117 := hE 117 (by decide)
  refine R_new (n := 9) (o := 0) (cells' := 117) (slots' := 9709) (B0 := s.heap.size) hx hb hml hown hW hB cl_10 tyX10_ok (in_place 85 (by decide +kernel) rfl) (in_place 86 (by decide +kernel) rfl) (in_place 67 (by decide +kernel) rfl) dL_law_0 dL_law_3 dL_law_4 (con_X10_0 hE) m0_X10_init rfl rfl (in_place 88 (by decide +kernel) rfl) (Or.inl (in_place 87 (by decide +kernel) rfl)) rfl (fun q hq => by cases hq) hl.1 (by decide) (by decide) (by decide) rfl (by decide) rfl (by decide) (fun H1 locs1 g1 g2 g3 g4 => ?_)
  refine lv_astore_n hx hb dL_law_7 rfl hl (by decide) rfl (fun lr1 hL1 => ?_)
  refine R_new (n := 70) (o := 117) (cells' := 164) (slots' := 26813) (B0 := s.heap.size) hx hb hml hown hW hB cl_11 tyX11_ok (in_place 925 (by decide +kernel) rfl) (in_place 926 (by decide +kernel) rfl) (in_place 79 (by decide +kernel) rfl) dL_law_8 dL_law_11 dL_law_12 (con_X11_117 hE) m0_X11_init rfl rfl (in_place 928 (by decide +kernel) rfl) (Or.inl (in_place 927 (by decide +kernel) rfl)) g1 g4 hL1.1 (by decide) (by decide) (by decide) rfl (by decide) rfl (by decide) (fun H2 locs2 k1 k2 k3 k4 => ?_)
  refine lv_astore_n hx hb dL_law_15 rfl hL1 (by decide) rfl (fun lr2 hL2 => ?_)
  refine lv_iconst hx hb dL_law_16 (v := nI 0) rfl ?_
  refine lv_istore_n hx hb dL_law_17 rfl hL2 (by decide) rfl (fun lr3 hL3 => ?_)
  have hRep : Rep E hs0 H2 := rep0 (fun j hj => by
    rcases Nat.lt_or_ge j 117 with z | z
    · exact (g2 j (Nat.zero_le _) z).kept hE hj (k3 _ (by omega))
    · exact k2 j z hj)
  have hS : va_S (fun q => s.heap.size ≤ q) s.heap H2 locs2 := ⟨by rw [k1]; exact Nat.le_add_right _ _, fun q h1 _ => by rw [k3 q (by omega)]; exact g3 q (by omega), k4⟩
  refine law_loop (E := E) (L := L) (xs := xs) ⟨hx, hb, hml, hown, hW, hI, hK, hX, hbl, hReg, hL⟩ (fun H locs lr hS => kk H locs lr hS.2.2) L 0 (by omega) (by decide) hs0 H2 locs2 lr3 inv0 hRep hS ?_
  rw [eS, eM]
  exact hL3
