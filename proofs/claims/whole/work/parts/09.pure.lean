theorem lg_cmp0 {x y : Int64} : lg_cmp x y = 0 ↔ x = y := by
  unfold lg_cmp
  split
  · rename_i h
    constructor
    · intro e; cases e
    · intro e; subst e; exact absurd h (by simp [Int64.lt_iff_toInt_lt])
  · split
    · rename_i h
      exact ⟨fun _ => h, fun _ => rfl⟩
    · rename_i h
      exact ⟨fun e => (by cases e), fun e => absurd e h⟩
theorem wX10_within (d : Nat) (a0 : Int32) (a1 : Int32) (a2 : Int32) (σ : HS) (Q : Option AV → HS → Prop) (h0 : ((a0 < a1 → Q (some (vI 0)) σ) ∧ (¬ a0 < a1 → ((a2 < a0 → Q (some (vI 0)) σ) ∧ (¬ a2 < a0 → Q (some (vI 1)) σ))))) : MT d mX10_within [vI a0, vI a1, vI a2] σ Q :=
  show EV d mX10_within 0 [some (vI a0), some (vI a1), some (vI a2)] [] σ Q from
  EV.iload_n (pc := 0) dX10_within_0 rfl <| EV.iload_n (pc := 1) dX10_within_1 rfl <| EV.icmp_lt (pc := 2) (tgt := 14) dX10_within_2 (by decide) (fun q_1 => have h_2 := h0.1 q_1; EV.iconst (v := 0) (pc := 14) dX10_within_14 rfl <| EV.zret (ty := .boolean) (pc := 15) dX10_within_15 rfl rfl h_2) (fun q_1 => have h_3 := h0.2 q_1; EV.iload_n (pc := 5) dX10_within_5 rfl <| EV.iload_n (pc := 6) dX10_within_6 rfl <| EV.icmp_gt (pc := 7) (tgt := 14) dX10_within_7 (by decide) (fun q_4 => have h_5 := h_3.1 q_4; EV.iconst (v := 0) (pc := 14) dX10_within_14 rfl <| EV.zret (ty := .boolean) (pc := 15) dX10_within_15 rfl rfl h_5) (fun q_4 => have h_6 := h_3.2 q_4; EV.iconst (v := 1) (pc := 10) dX10_within_10 rfl <| EV.goto (pc := 11) (tgt := 15) dX10_within_11 (by decide) <| EV.zret (ty := .boolean) (pc := 15) dX10_within_15 rfl rfl h_6))
theorem puX10_within (d : Nat) (a0 : Int32) (a1 : Int32) (a2 : Int32) (σ : HS) (Q : Option AV → HS → Prop) (h : Q (some (vI (bI (a1 ≤ a0 ∧ a0 ≤ a2)))) σ) : MT d mX10_within [vI a0, vI a1, vI a2] σ Q := by
  refine wX10_within d a0 a1 a2 σ Q ?_
  repeat' (first | apply And.intro | intro _)
  all_goals first
    | exact (bI_t (P := a1 ≤ a0 ∧ a0 ≤ a2) (by (simp only [Int32.le_iff_toInt_le, Int32.lt_iff_toInt_lt, ← Int32.toInt_inj, Int32.reduceToInt] at *; omega))) ▸ h
    | exact (bI_f (P := a1 ≤ a0 ∧ a0 ≤ a2) (by (simp only [Int32.le_iff_toInt_le, Int32.lt_iff_toInt_lt, ← Int32.toInt_inj, Int32.reduceToInt] at *; omega))) ▸ h
section RP_X10_within
variable {d : Nat} {M : MI} {pc : Nat} {ls : List (Option AV)} {st : List AV} {σ : HS} {Q : Option AV → HS → Prop}
theorem rcp_X10_63 {a0 : Int32} {a1 : Int32} {a2 : Int32} (h : decode M.2.1 pc = .ok (.invokestatic 63, 3)) (hM : M.1.cls = RX10) (hd : 1 ≤ d) (hrest : (st.map catA).sum ≤ 8) (kk : EV d M (pc + 3) ls (vI (bI (a1 ≤ a0 ∧ a0 ≤ a2)) :: st) σ Q) : EV d M pc ls (vI a2 :: vI a1 :: vI a0 :: st) σ Q := EV.callS (As := [vI a0, vI a1, vI a2]) h (Nat.le_trans (by decide) hd) (by rw [hM]; exact ml_X10_63) rfl (Nat.le_of_ble_eq_true rfl) hrest rfl (puX10_within (d - 1) a0 a1 a2 σ (fun r σ2 => r = some (vI (bI (a1 ≤ a0 ∧ a0 ≤ a2))) ∧ σ2 = σ) ⟨rfl, rfl⟩) (fun rv σ2 h2 => by obtain ⟨rfl, rfl⟩ := h2; exact kk)
theorem rcp_X2_37 {a0 : Int32} {a1 : Int32} {a2 : Int32} (h : decode M.2.1 pc = .ok (.invokestatic 37, 3)) (hM : M.1.cls = RX2) (hd : 1 ≤ d) (hrest : (st.map catA).sum ≤ 8) (kk : EV d M (pc + 3) ls (vI (bI (a1 ≤ a0 ∧ a0 ≤ a2)) :: st) σ Q) : EV d M pc ls (vI a2 :: vI a1 :: vI a0 :: st) σ Q := EV.callS (As := [vI a0, vI a1, vI a2]) h (Nat.le_trans (by decide) hd) (by rw [hM]; exact ml_X2_37) rfl (Nat.le_of_ble_eq_true rfl) hrest rfl (puX10_within (d - 1) a0 a1 a2 σ (fun r σ2 => r = some (vI (bI (a1 ≤ a0 ∧ a0 ≤ a2))) ∧ σ2 = σ) ⟨rfl, rfl⟩) (fun rv σ2 h2 => by obtain ⟨rfl, rfl⟩ := h2; exact kk)
theorem rcp_X3_40 {a0 : Int32} {a1 : Int32} {a2 : Int32} (h : decode M.2.1 pc = .ok (.invokestatic 40, 3)) (hM : M.1.cls = RX3) (hd : 1 ≤ d) (hrest : (st.map catA).sum ≤ 8) (kk : EV d M (pc + 3) ls (vI (bI (a1 ≤ a0 ∧ a0 ≤ a2)) :: st) σ Q) : EV d M pc ls (vI a2 :: vI a1 :: vI a0 :: st) σ Q := EV.callS (As := [vI a0, vI a1, vI a2]) h (Nat.le_trans (by decide) hd) (by rw [hM]; exact ml_X3_40) rfl (Nat.le_of_ble_eq_true rfl) hrest rfl (puX10_within (d - 1) a0 a1 a2 σ (fun r σ2 => r = some (vI (bI (a1 ≤ a0 ∧ a0 ≤ a2))) ∧ σ2 = σ) ⟨rfl, rfl⟩) (fun rv σ2 h2 => by obtain ⟨rfl, rfl⟩ := h2; exact kk)
theorem rcp_X5_52 {a0 : Int32} {a1 : Int32} {a2 : Int32} (h : decode M.2.1 pc = .ok (.invokestatic 52, 3)) (hM : M.1.cls = RX5) (hd : 1 ≤ d) (hrest : (st.map catA).sum ≤ 8) (kk : EV d M (pc + 3) ls (vI (bI (a1 ≤ a0 ∧ a0 ≤ a2)) :: st) σ Q) : EV d M pc ls (vI a2 :: vI a1 :: vI a0 :: st) σ Q := EV.callS (As := [vI a0, vI a1, vI a2]) h (Nat.le_trans (by decide) hd) (by rw [hM]; exact ml_X5_52) rfl (Nat.le_of_ble_eq_true rfl) hrest rfl (puX10_within (d - 1) a0 a1 a2 σ (fun r σ2 => r = some (vI (bI (a1 ≤ a0 ∧ a0 ≤ a2))) ∧ σ2 = σ) ⟨rfl, rfl⟩) (fun rv σ2 h2 => by obtain ⟨rfl, rfl⟩ := h2; exact kk)
theorem rcp_X8_58 {a0 : Int32} {a1 : Int32} {a2 : Int32} (h : decode M.2.1 pc = .ok (.invokestatic 58, 3)) (hM : M.1.cls = RX8) (hd : 1 ≤ d) (hrest : (st.map catA).sum ≤ 8) (kk : EV d M (pc + 3) ls (vI (bI (a1 ≤ a0 ∧ a0 ≤ a2)) :: st) σ Q) : EV d M pc ls (vI a2 :: vI a1 :: vI a0 :: st) σ Q := EV.callS (As := [vI a0, vI a1, vI a2]) h (Nat.le_trans (by decide) hd) (by rw [hM]; exact ml_X8_58) rfl (Nat.le_of_ble_eq_true rfl) hrest rfl (puX10_within (d - 1) a0 a1 a2 σ (fun r σ2 => r = some (vI (bI (a1 ≤ a0 ∧ a0 ≤ a2))) ∧ σ2 = σ) ⟨rfl, rfl⟩) (fun rv σ2 h2 => by obtain ⟨rfl, rfl⟩ := h2; exact kk)
end RP_X10_within
theorem wX10_isKind (d : Nat) (a0 : Int32) (σ : HS) (Q : Option AV → HS → Prop) (hd : 1 ≤ d) (h0 : Q (some (vI (bI (0 ≤ a0 ∧ a0 ≤ 2)))) σ) : MT d mX10_isKind [vI a0] σ Q :=
  show EV d mX10_isKind 0 [some (vI a0)] [] σ Q from
  EV.iload_n (pc := 0) dX10_isKind_0 rfl <| EV.iconst (v := 0) (pc := 1) dX10_isKind_1 rfl <| EV.iconst (v := 2) (pc := 2) dX10_isKind_2 rfl <| rcp_X10_63 (pc := 3) dX10_isKind_3 rfl (Nat.le_trans (by decide) hd) (Nat.le_of_ble_eq_true rfl) <| EV.zret (ty := .boolean) (pc := 6) dX10_isKind_6 rfl bI_nar h0
theorem puX10_isKind (d : Nat) (a0 : Int32) (σ : HS) (Q : Option AV → HS → Prop) (hd : 1 ≤ d) (h : Q (some (vI (bI (0 ≤ a0 ∧ a0 ≤ 2)))) σ) : MT d mX10_isKind [vI a0] σ Q := wX10_isKind d a0 σ Q hd h
section RP_X10_isKind
variable {d : Nat} {M : MI} {pc : Nat} {ls : List (Option AV)} {st : List AV} {σ : HS} {Q : Option AV → HS → Prop}
theorem rcp_X10_79 {a0 : Int32} (h : decode M.2.1 pc = .ok (.invokestatic 79, 3)) (hM : M.1.cls = RX10) (hd : 2 ≤ d) (hrest : (st.map catA).sum ≤ 8) (kk : EV d M (pc + 3) ls (vI (bI (0 ≤ a0 ∧ a0 ≤ 2)) :: st) σ Q) : EV d M pc ls (vI a0 :: st) σ Q := EV.callS (As := [vI a0]) h (Nat.le_trans (by decide) hd) (by rw [hM]; exact ml_X10_79) rfl (Nat.le_of_ble_eq_true rfl) hrest rfl (puX10_isKind (d - 1) a0 σ (fun r σ2 => r = some (vI (bI (0 ≤ a0 ∧ a0 ≤ 2))) ∧ σ2 = σ) (by omega) ⟨rfl, rfl⟩) (fun rv σ2 h2 => by obtain ⟨rfl, rfl⟩ := h2; exact kk)
theorem rcp_X5_64 {a0 : Int32} (h : decode M.2.1 pc = .ok (.invokestatic 64, 3)) (hM : M.1.cls = RX5) (hd : 2 ≤ d) (hrest : (st.map catA).sum ≤ 8) (kk : EV d M (pc + 3) ls (vI (bI (0 ≤ a0 ∧ a0 ≤ 2)) :: st) σ Q) : EV d M pc ls (vI a0 :: st) σ Q := EV.callS (As := [vI a0]) h (Nat.le_trans (by decide) hd) (by rw [hM]; exact ml_X5_64) rfl (Nat.le_of_ble_eq_true rfl) hrest rfl (puX10_isKind (d - 1) a0 σ (fun r σ2 => r = some (vI (bI (0 ≤ a0 ∧ a0 ≤ 2))) ∧ σ2 = σ) (by omega) ⟨rfl, rfl⟩) (fun rv σ2 h2 => by obtain ⟨rfl, rfl⟩ := h2; exact kk)
end RP_X10_isKind
theorem wX10_subject (d : Nat) (a0 : Int32) (a1 : Int32) (σ : HS) (Q : Option AV → HS → Prop) (h0 : Q (some (vI ((a0 * 3) + a1))) σ) : MT d mX10_subject [vI a0, vI a1] σ Q :=
  show EV d mX10_subject 0 [some (vI a0), some (vI a1)] [] σ Q from
  EV.iload_n (pc := 0) dX10_subject_0 rfl <| EV.iconst (v := 3) (pc := 1) dX10_subject_1 rfl <| EV.imul (pc := 2) dX10_subject_2 <| EV.iload_n (pc := 3) dX10_subject_3 rfl <| EV.iadd (pc := 4) dX10_subject_4 <| EV.iret (pc := 5) dX10_subject_5 rfl h0
theorem puX10_subject (d : Nat) (a0 : Int32) (a1 : Int32) (σ : HS) (Q : Option AV → HS → Prop) (h : Q (some (vI (a0 * 3 + a1))) σ) : MT d mX10_subject [vI a0, vI a1] σ Q := wX10_subject d a0 a1 σ Q h
section RP_X10_subject
variable {d : Nat} {M : MI} {pc : Nat} {ls : List (Option AV)} {st : List AV} {σ : HS} {Q : Option AV → HS → Prop}
theorem rcp_X10_176 {a0 : Int32} {a1 : Int32} (h : decode M.2.1 pc = .ok (.invokestatic 176, 3)) (hM : M.1.cls = RX10) (hd : 1 ≤ d) (hrest : (st.map catA).sum ≤ 8) (kk : EV d M (pc + 3) ls (vI (a0 * 3 + a1) :: st) σ Q) : EV d M pc ls (vI a1 :: vI a0 :: st) σ Q := EV.callS (As := [vI a0, vI a1]) h (Nat.le_trans (by decide) hd) (by rw [hM]; exact ml_X10_176) rfl (Nat.le_of_ble_eq_true rfl) hrest rfl (puX10_subject (d - 1) a0 a1 σ (fun r σ2 => r = some (vI (a0 * 3 + a1)) ∧ σ2 = σ) ⟨rfl, rfl⟩) (fun rv σ2 h2 => by obtain ⟨rfl, rfl⟩ := h2; exact kk)
theorem rcp_X4_108 {a0 : Int32} {a1 : Int32} (h : decode M.2.1 pc = .ok (.invokestatic 108, 3)) (hM : M.1.cls = RX4) (hd : 1 ≤ d) (hrest : (st.map catA).sum ≤ 8) (kk : EV d M (pc + 3) ls (vI (a0 * 3 + a1) :: st) σ Q) : EV d M pc ls (vI a1 :: vI a0 :: st) σ Q := EV.callS (As := [vI a0, vI a1]) h (Nat.le_trans (by decide) hd) (by rw [hM]; exact ml_X4_108) rfl (Nat.le_of_ble_eq_true rfl) hrest rfl (puX10_subject (d - 1) a0 a1 σ (fun r σ2 => r = some (vI (a0 * 3 + a1)) ∧ σ2 = σ) ⟨rfl, rfl⟩) (fun rv σ2 h2 => by obtain ⟨rfl, rfl⟩ := h2; exact kk)
end RP_X10_subject
theorem wX10_monthsOnTheWay (d : Nat) (a0 : Int32) (σ : HS) (Q : Option AV → HS → Prop) (h0 : Q (some (vI (((a0 + 30) - 1) / 30))) σ) : MT d mX10_monthsOnTheWay [vI a0] σ Q :=
  show EV d mX10_monthsOnTheWay 0 [some (vI a0)] [] σ Q from
  EV.iload_n (pc := 0) dX10_monthsOnTheWay_0 rfl <| EV.bipush (v := 30) (pc := 1) dX10_monthsOnTheWay_1 rfl <| EV.iadd (pc := 3) dX10_monthsOnTheWay_3 <| EV.iconst (v := 1) (pc := 4) dX10_monthsOnTheWay_4 rfl <| EV.isub (pc := 5) dX10_monthsOnTheWay_5 <| EV.bipush (v := 30) (pc := 6) dX10_monthsOnTheWay_6 rfl <| EV.idiv (pc := 8) dX10_monthsOnTheWay_8 (by decide) <| EV.iret (pc := 9) dX10_monthsOnTheWay_9 rfl h0
theorem puX10_monthsOnTheWay (d : Nat) (a0 : Int32) (σ : HS) (Q : Option AV → HS → Prop) (h : Q (some (vI ((a0 + 30 - 1) / 30))) σ) : MT d mX10_monthsOnTheWay [vI a0] σ Q := wX10_monthsOnTheWay d a0 σ Q h
section RP_X10_monthsOnTheWay
variable {d : Nat} {M : MI} {pc : Nat} {ls : List (Option AV)} {st : List AV} {σ : HS} {Q : Option AV → HS → Prop}
theorem rcp_X10_252 {a0 : Int32} (h : decode M.2.1 pc = .ok (.invokestatic 252, 3)) (hM : M.1.cls = RX10) (hd : 1 ≤ d) (hrest : (st.map catA).sum ≤ 8) (kk : EV d M (pc + 3) ls (vI ((a0 + 30 - 1) / 30) :: st) σ Q) : EV d M pc ls (vI a0 :: st) σ Q := EV.callS (As := [vI a0]) h (Nat.le_trans (by decide) hd) (by rw [hM]; exact ml_X10_252) rfl (Nat.le_of_ble_eq_true rfl) hrest rfl (puX10_monthsOnTheWay (d - 1) a0 σ (fun r σ2 => r = some (vI ((a0 + 30 - 1) / 30)) ∧ σ2 = σ) ⟨rfl, rfl⟩) (fun rv σ2 h2 => by obtain ⟨rfl, rfl⟩ := h2; exact kk)
theorem rcp_X6_128 {a0 : Int32} (h : decode M.2.1 pc = .ok (.invokestatic 128, 3)) (hM : M.1.cls = RX6) (hd : 1 ≤ d) (hrest : (st.map catA).sum ≤ 8) (kk : EV d M (pc + 3) ls (vI ((a0 + 30 - 1) / 30) :: st) σ Q) : EV d M pc ls (vI a0 :: st) σ Q := EV.callS (As := [vI a0]) h (Nat.le_trans (by decide) hd) (by rw [hM]; exact ml_X6_128) rfl (Nat.le_of_ble_eq_true rfl) hrest rfl (puX10_monthsOnTheWay (d - 1) a0 σ (fun r σ2 => r = some (vI ((a0 + 30 - 1) / 30)) ∧ σ2 = σ) ⟨rfl, rfl⟩) (fun rv σ2 h2 => by obtain ⟨rfl, rfl⟩ := h2; exact kk)
end RP_X10_monthsOnTheWay
theorem wX2_hasTown (d : Nat) (a0 : Int32) (σ : HS) (Q : Option AV → HS → Prop) (hd : 1 ≤ d) (h0 : Q (some (vI (bI (0 ≤ a0 ∧ a0 ≤ ((σ.1 2 0 3) - 1))))) σ) : MT d mX2_hasTown [vR 2 0, vI a0] σ Q :=
  show EV d mX2_hasTown 0 [some (vR 2 0), some (vI a0)] [] σ Q from
  EV.iload_n (pc := 0) dX2_hasTown_0 rfl <| EV.iconst (v := 0) (pc := 1) dX2_hasTown_1 rfl <| EV.aload_n (pc := 2) dX2_hasTown_2 rfl <| rg_X2_33 (pc := 3) dX2_hasTown_3 rfl (by decide) <| EV.iconst (v := 1) (pc := 6) dX2_hasTown_6 rfl <| EV.isub (pc := 7) dX2_hasTown_7 <| rcp_X2_37 (pc := 8) dX2_hasTown_8 rfl (Nat.le_trans (by decide) hd) (Nat.le_of_ble_eq_true rfl) <| EV.zret (ty := .boolean) (pc := 11) dX2_hasTown_11 rfl bI_nar h0
theorem puX2_hasTown (d : Nat) (a0 : Int32) (σ : HS) (Q : Option AV → HS → Prop) (hd : 1 ≤ d) (h : Q (some (vI (bI (0 ≤ a0 ∧ a0 ≤ σ.1 2 0 3 - 1)))) σ) : MT d mX2_hasTown [vR 2 0, vI a0] σ Q := wX2_hasTown d a0 σ Q hd h
section RP_X2_hasTown
variable {d : Nat} {M : MI} {pc : Nat} {ls : List (Option AV)} {st : List AV} {σ : HS} {Q : Option AV → HS → Prop}
theorem rcp_X10_71 {a0 : Int32} (h : decode M.2.1 pc = .ok (.invokevirtual 71, 3)) (hM : M.1.cls = RX10) (hd : 2 ≤ d) (hi : 0 < 1) (hrest : (st.map catA).sum ≤ 8) (kk : EV d M (pc + 3) ls (vI (bI (0 ≤ a0 ∧ a0 ≤ σ.1 2 0 3 - 1)) :: st) σ Q) : EV d M pc ls (vI a0 :: vR 2 0 :: st) σ Q := EV.callV (As := [vI a0]) h (Nat.le_trans (by decide) hd) (by rw [hM]; exact ml_X10_71) rfl (Nat.le_of_ble_eq_true rfl) (by decide) hi rfl rfl rfl hrest rfl (puX2_hasTown (d - 1) a0 σ (fun r σ2 => r = some (vI (bI (0 ≤ a0 ∧ a0 ≤ σ.1 2 0 3 - 1))) ∧ σ2 = σ) (by omega) ⟨rfl, rfl⟩) (fun rv σ2 h2 => by obtain ⟨rfl, rfl⟩ := h2; exact kk)
theorem rcp_X5_61 {a0 : Int32} (h : decode M.2.1 pc = .ok (.invokevirtual 61, 3)) (hM : M.1.cls = RX5) (hd : 2 ≤ d) (hi : 0 < 1) (hrest : (st.map catA).sum ≤ 8) (kk : EV d M (pc + 3) ls (vI (bI (0 ≤ a0 ∧ a0 ≤ σ.1 2 0 3 - 1)) :: st) σ Q) : EV d M pc ls (vI a0 :: vR 2 0 :: st) σ Q := EV.callV (As := [vI a0]) h (Nat.le_trans (by decide) hd) (by rw [hM]; exact ml_X5_61) rfl (Nat.le_of_ble_eq_true rfl) (by decide) hi rfl rfl rfl hrest rfl (puX2_hasTown (d - 1) a0 σ (fun r σ2 => r = some (vI (bI (0 ≤ a0 ∧ a0 ≤ σ.1 2 0 3 - 1))) ∧ σ2 = σ) (by omega) ⟨rfl, rfl⟩) (fun rv σ2 h2 => by obtain ⟨rfl, rfl⟩ := h2; exact kk)
end RP_X2_hasTown
theorem wX6_pair (d : Nat) (a0 : Int32) (a1 : Int32) (σ : HS) (Q : Option AV → HS → Prop) (h0 : Q (some (vI ((a0 * 10) + a1))) σ) : MT d mX6_pair [vI a0, vI a1] σ Q :=
  show EV d mX6_pair 0 [some (vI a0), some (vI a1)] [] σ Q from
  EV.iload_n (pc := 0) dX6_pair_0 rfl <| EV.bipush (v := 10) (pc := 1) dX6_pair_1 rfl <| EV.imul (pc := 3) dX6_pair_3 <| EV.iload_n (pc := 4) dX6_pair_4 rfl <| EV.iadd (pc := 5) dX6_pair_5 <| EV.iret (pc := 6) dX6_pair_6 rfl h0
theorem puX6_pair (d : Nat) (a0 : Int32) (a1 : Int32) (σ : HS) (Q : Option AV → HS → Prop) (h : Q (some (vI (a0 * 10 + a1))) σ) : MT d mX6_pair [vI a0, vI a1] σ Q := wX6_pair d a0 a1 σ Q h
section RP_X6_pair
variable {d : Nat} {M : MI} {pc : Nat} {ls : List (Option AV)} {st : List AV} {σ : HS} {Q : Option AV → HS → Prop}
theorem rcp_X6_131 {a0 : Int32} {a1 : Int32} (h : decode M.2.1 pc = .ok (.invokestatic 131, 3)) (hM : M.1.cls = RX6) (hd : 1 ≤ d) (hrest : (st.map catA).sum ≤ 8) (kk : EV d M (pc + 3) ls (vI (a0 * 10 + a1) :: st) σ Q) : EV d M pc ls (vI a1 :: vI a0 :: st) σ Q := EV.callS (As := [vI a0, vI a1]) h (Nat.le_trans (by decide) hd) (by rw [hM]; exact ml_X6_131) rfl (Nat.le_of_ble_eq_true rfl) hrest rfl (puX6_pair (d - 1) a0 a1 σ (fun r σ2 => r = some (vI (a0 * 10 + a1)) ∧ σ2 = σ) ⟨rfl, rfl⟩) (fun rv σ2 h2 => by obtain ⟨rfl, rfl⟩ := h2; exact kk)
end RP_X6_pair
theorem wX5_isTerm (d : Nat) (a0 : Int32) (σ : HS) (Q : Option AV → HS → Prop) (hd : 1 ≤ d) (h0 : ((a0 = 2 → Q (some (vI 1)) σ) ∧ (¬ a0 = 2 → ((¬ (13 ≤ a0 ∧ a0 ≤ 17) → Q (some (vI 0)) σ) ∧ ((13 ≤ a0 ∧ a0 ≤ 17) → Q (some (vI 1)) σ))))) : MT d mX5_isTerm [vI a0] σ Q :=
  show EV d mX5_isTerm 0 [some (vI a0)] [] σ Q from
  EV.iload_n (pc := 0) dX5_isTerm_0 rfl <| EV.iconst (v := 2) (pc := 1) dX5_isTerm_1 rfl <| EV.icmp_eq (pc := 2) (tgt := 16) dX5_isTerm_2 (by decide) (fun q_1 => have h_2 := h0.1 q_1; EV.iconst (v := 1) (pc := 16) dX5_isTerm_16 rfl <| EV.goto (pc := 17) (tgt := 21) dX5_isTerm_17 (by decide) <| EV.zret (ty := .boolean) (pc := 21) dX5_isTerm_21 rfl rfl h_2) (fun q_1 => have h_3 := h0.2 q_1; EV.iload_n (pc := 5) dX5_isTerm_5 rfl <| EV.bipush (v := 13) (pc := 6) dX5_isTerm_6 rfl <| EV.bipush (v := 17) (pc := 8) dX5_isTerm_8 rfl <| rcp_X5_52 (pc := 10) dX5_isTerm_10 rfl (Nat.le_trans (by decide) hd) (Nat.le_of_ble_eq_true rfl) <| EV.if_eqB (pc := 13) (tgt := 20) dX5_isTerm_13 (by decide) (fun q_4 => have h_5 := h_3.1 q_4; EV.iconst (v := 0) (pc := 20) dX5_isTerm_20 rfl <| EV.zret (ty := .boolean) (pc := 21) dX5_isTerm_21 rfl rfl h_5) (fun q_4 => have h_6 := h_3.2 q_4; EV.iconst (v := 1) (pc := 16) dX5_isTerm_16 rfl <| EV.goto (pc := 17) (tgt := 21) dX5_isTerm_17 (by decide) <| EV.zret (ty := .boolean) (pc := 21) dX5_isTerm_21 rfl rfl h_6))
theorem puX5_isTerm (d : Nat) (a0 : Int32) (σ : HS) (Q : Option AV → HS → Prop) (hd : 1 ≤ d) (h : Q (some (vI (bI (a0 = 2 ∨ (13 ≤ a0 ∧ a0 ≤ 17))))) σ) : MT d mX5_isTerm [vI a0] σ Q := by
  refine wX5_isTerm d a0 σ Q hd ?_
  repeat' (first | apply And.intro | intro _)
  all_goals first
    | exact (bI_t (P := a0 = 2 ∨ (13 ≤ a0 ∧ a0 ≤ 17)) (by (simp only [Int32.le_iff_toInt_le, Int32.lt_iff_toInt_lt, ← Int32.toInt_inj, Int32.reduceToInt] at *; omega))) ▸ h
    | exact (bI_f (P := a0 = 2 ∨ (13 ≤ a0 ∧ a0 ≤ 17)) (by (simp only [Int32.le_iff_toInt_le, Int32.lt_iff_toInt_lt, ← Int32.toInt_inj, Int32.reduceToInt] at *; omega))) ▸ h
section RP_X5_isTerm
variable {d : Nat} {M : MI} {pc : Nat} {ls : List (Option AV)} {st : List AV} {σ : HS} {Q : Option AV → HS → Prop}
theorem rcp_X5_40 {a0 : Int32} (h : decode M.2.1 pc = .ok (.invokestatic 40, 3)) (hM : M.1.cls = RX5) (hd : 2 ≤ d) (hrest : (st.map catA).sum ≤ 8) (kk : EV d M (pc + 3) ls (vI (bI (a0 = 2 ∨ (13 ≤ a0 ∧ a0 ≤ 17))) :: st) σ Q) : EV d M pc ls (vI a0 :: st) σ Q := EV.callS (As := [vI a0]) h (Nat.le_trans (by decide) hd) (by rw [hM]; exact ml_X5_40) rfl (Nat.le_of_ble_eq_true rfl) hrest rfl (puX5_isTerm (d - 1) a0 σ (fun r σ2 => r = some (vI (bI (a0 = 2 ∨ (13 ≤ a0 ∧ a0 ≤ 17)))) ∧ σ2 = σ) (by omega) ⟨rfl, rfl⟩) (fun rv σ2 h2 => by obtain ⟨rfl, rfl⟩ := h2; exact kk)
end RP_X5_isTerm
theorem wX8_isLetter (d : Nat) (a0 : Int32) (σ : HS) (Q : Option AV → HS → Prop) (hd : 1 ≤ d) (h0 : Q (some (vI (bI (97 ≤ a0 ∧ a0 ≤ 122)))) σ) : MT d mX8_isLetter [vI a0] σ Q :=
  show EV d mX8_isLetter 0 [some (vI a0)] [] σ Q from
  EV.iload_n (pc := 0) dX8_isLetter_0 rfl <| EV.bipush (v := 97) (pc := 1) dX8_isLetter_1 rfl <| EV.bipush (v := 122) (pc := 3) dX8_isLetter_3 rfl <| rcp_X8_58 (pc := 5) dX8_isLetter_5 rfl (Nat.le_trans (by decide) hd) (Nat.le_of_ble_eq_true rfl) <| EV.zret (ty := .boolean) (pc := 8) dX8_isLetter_8 rfl bI_nar h0
theorem puX8_isLetter (d : Nat) (a0 : Int32) (σ : HS) (Q : Option AV → HS → Prop) (hd : 1 ≤ d) (h : Q (some (vI (bI (97 ≤ a0 ∧ a0 ≤ 122)))) σ) : MT d mX8_isLetter [vI a0] σ Q := wX8_isLetter d a0 σ Q hd h
section RP_X8_isLetter
variable {d : Nat} {M : MI} {pc : Nat} {ls : List (Option AV)} {st : List AV} {σ : HS} {Q : Option AV → HS → Prop}
theorem rcp_X8_27 {a0 : Int32} (h : decode M.2.1 pc = .ok (.invokestatic 27, 3)) (hM : M.1.cls = RX8) (hd : 2 ≤ d) (hrest : (st.map catA).sum ≤ 8) (kk : EV d M (pc + 3) ls (vI (bI (97 ≤ a0 ∧ a0 ≤ 122)) :: st) σ Q) : EV d M pc ls (vI a0 :: st) σ Q := EV.callS (As := [vI a0]) h (Nat.le_trans (by decide) hd) (by rw [hM]; exact ml_X8_27) rfl (Nat.le_of_ble_eq_true rfl) hrest rfl (puX8_isLetter (d - 1) a0 σ (fun r σ2 => r = some (vI (bI (97 ≤ a0 ∧ a0 ≤ 122))) ∧ σ2 = σ) (by omega) ⟨rfl, rfl⟩) (fun rv σ2 h2 => by obtain ⟨rfl, rfl⟩ := h2; exact kk)
end RP_X8_isLetter
theorem wX8_isDigit (d : Nat) (a0 : Int32) (σ : HS) (Q : Option AV → HS → Prop) (hd : 1 ≤ d) (h0 : Q (some (vI (bI (48 ≤ a0 ∧ a0 ≤ 57)))) σ) : MT d mX8_isDigit [vI a0] σ Q :=
  show EV d mX8_isDigit 0 [some (vI a0)] [] σ Q from
  EV.iload_n (pc := 0) dX8_isDigit_0 rfl <| EV.bipush (v := 48) (pc := 1) dX8_isDigit_1 rfl <| EV.bipush (v := 57) (pc := 3) dX8_isDigit_3 rfl <| rcp_X8_58 (pc := 5) dX8_isDigit_5 rfl (Nat.le_trans (by decide) hd) (Nat.le_of_ble_eq_true rfl) <| EV.zret (ty := .boolean) (pc := 8) dX8_isDigit_8 rfl bI_nar h0
theorem puX8_isDigit (d : Nat) (a0 : Int32) (σ : HS) (Q : Option AV → HS → Prop) (hd : 1 ≤ d) (h : Q (some (vI (bI (48 ≤ a0 ∧ a0 ≤ 57)))) σ) : MT d mX8_isDigit [vI a0] σ Q := wX8_isDigit d a0 σ Q hd h
section RP_X8_isDigit
variable {d : Nat} {M : MI} {pc : Nat} {ls : List (Option AV)} {st : List AV} {σ : HS} {Q : Option AV → HS → Prop}
theorem rcp_X8_35 {a0 : Int32} (h : decode M.2.1 pc = .ok (.invokestatic 35, 3)) (hM : M.1.cls = RX8) (hd : 2 ≤ d) (hrest : (st.map catA).sum ≤ 8) (kk : EV d M (pc + 3) ls (vI (bI (48 ≤ a0 ∧ a0 ≤ 57)) :: st) σ Q) : EV d M pc ls (vI a0 :: st) σ Q := EV.callS (As := [vI a0]) h (Nat.le_trans (by decide) hd) (by rw [hM]; exact ml_X8_35) rfl (Nat.le_of_ble_eq_true rfl) hrest rfl (puX8_isDigit (d - 1) a0 σ (fun r σ2 => r = some (vI (bI (48 ≤ a0 ∧ a0 ≤ 57))) ∧ σ2 = σ) (by omega) ⟨rfl, rfl⟩) (fun rv σ2 h2 => by obtain ⟨rfl, rfl⟩ := h2; exact kk)
end RP_X8_isDigit
theorem wX11_isTown (d : Nat) (a0 : Int32) (σ : HS) (Q : Option AV → HS → Prop) (h0 : ((a0 < 0 → Q (some (vI 0)) σ) ∧ (¬ a0 < 0 → ((σ.1 0 0 7 ≤ a0 → Q (some (vI 0)) σ) ∧ (¬ σ.1 0 0 7 ≤ a0 → Q (some (vI 1)) σ))))) : MT d mX11_isTown [vR 0 0, vI a0] σ Q :=
  show EV d mX11_isTown 0 [some (vR 0 0), some (vI a0)] [] σ Q from
  EV.iload_n (pc := 0) dX11_isTown_0 rfl <| EV.if_lt (pc := 1) (tgt := 16) dX11_isTown_1 (by decide) (fun q_1 => have h_2 := h0.1 q_1; EV.iconst (v := 0) (pc := 16) dX11_isTown_16 rfl <| EV.zret (ty := .boolean) (pc := 17) dX11_isTown_17 rfl rfl h_2) (fun q_1 => have h_3 := h0.2 q_1; EV.iload_n (pc := 4) dX11_isTown_4 rfl <| EV.aload_n (pc := 5) dX11_isTown_5 rfl <| rg_X11_153 (pc := 6) dX11_isTown_6 rfl (by decide) <| EV.icmp_ge (pc := 9) (tgt := 16) dX11_isTown_9 (by decide) (fun q_4 => have h_5 := h_3.1 q_4; EV.iconst (v := 0) (pc := 16) dX11_isTown_16 rfl <| EV.zret (ty := .boolean) (pc := 17) dX11_isTown_17 rfl rfl h_5) (fun q_4 => have h_6 := h_3.2 q_4; EV.iconst (v := 1) (pc := 12) dX11_isTown_12 rfl <| EV.goto (pc := 13) (tgt := 17) dX11_isTown_13 (by decide) <| EV.zret (ty := .boolean) (pc := 17) dX11_isTown_17 rfl rfl h_6))
theorem puX11_isTown (d : Nat) (a0 : Int32) (σ : HS) (Q : Option AV → HS → Prop) (h : Q (some (vI (bI (0 ≤ a0 ∧ a0 < σ.1 0 0 7)))) σ) : MT d mX11_isTown [vR 0 0, vI a0] σ Q := by
  refine wX11_isTown d a0 σ Q ?_
  repeat' (first | apply And.intro | intro _)
  all_goals first
    | exact (bI_t (P := 0 ≤ a0 ∧ a0 < σ.1 0 0 7) (by (simp only [Int32.le_iff_toInt_le, Int32.lt_iff_toInt_lt, ← Int32.toInt_inj, Int32.reduceToInt] at *; omega))) ▸ h
    | exact (bI_f (P := 0 ≤ a0 ∧ a0 < σ.1 0 0 7) (by (simp only [Int32.le_iff_toInt_le, Int32.lt_iff_toInt_lt, ← Int32.toInt_inj, Int32.reduceToInt] at *; omega))) ▸ h
section RP_X11_isTown
variable {d : Nat} {M : MI} {pc : Nat} {ls : List (Option AV)} {st : List AV} {σ : HS} {Q : Option AV → HS → Prop}
theorem rcp_X11_157 {a0 : Int32} (h : decode M.2.1 pc = .ok (.invokevirtual 157, 3)) (hM : M.1.cls = RX11) (hd : 1 ≤ d) (hi : 0 < 1) (hrest : (st.map catA).sum ≤ 8) (kk : EV d M (pc + 3) ls (vI (bI (0 ≤ a0 ∧ a0 < σ.1 0 0 7)) :: st) σ Q) : EV d M pc ls (vI a0 :: vR 0 0 :: st) σ Q := EV.callV (As := [vI a0]) h (Nat.le_trans (by decide) hd) (by rw [hM]; exact ml_X11_157) rfl (Nat.le_of_ble_eq_true rfl) (by decide) hi rfl rfl rfl hrest rfl (puX11_isTown (d - 1) a0 σ (fun r σ2 => r = some (vI (bI (0 ≤ a0 ∧ a0 < σ.1 0 0 7))) ∧ σ2 = σ) ⟨rfl, rfl⟩) (fun rv σ2 h2 => by obtain ⟨rfl, rfl⟩ := h2; exact kk)
end RP_X11_isTown
theorem wX11_isKind (d : Nat) (a0 : Int32) (σ : HS) (Q : Option AV → HS → Prop) (h0 : ((a0 < 0 → Q (some (vI 0)) σ) ∧ (¬ a0 < 0 → ((3 ≤ a0 → Q (some (vI 0)) σ) ∧ (¬ 3 ≤ a0 → Q (some (vI 1)) σ))))) : MT d mX11_isKind [vI a0] σ Q :=
  show EV d mX11_isKind 0 [some (vI a0)] [] σ Q from
  EV.iload_n (pc := 0) dX11_isKind_0 rfl <| EV.if_lt (pc := 1) (tgt := 13) dX11_isKind_1 (by decide) (fun q_1 => have h_2 := h0.1 q_1; EV.iconst (v := 0) (pc := 13) dX11_isKind_13 rfl <| EV.zret (ty := .boolean) (pc := 14) dX11_isKind_14 rfl rfl h_2) (fun q_1 => have h_3 := h0.2 q_1; EV.iload_n (pc := 4) dX11_isKind_4 rfl <| EV.iconst (v := 3) (pc := 5) dX11_isKind_5 rfl <| EV.icmp_ge (pc := 6) (tgt := 13) dX11_isKind_6 (by decide) (fun q_4 => have h_5 := h_3.1 q_4; EV.iconst (v := 0) (pc := 13) dX11_isKind_13 rfl <| EV.zret (ty := .boolean) (pc := 14) dX11_isKind_14 rfl rfl h_5) (fun q_4 => have h_6 := h_3.2 q_4; EV.iconst (v := 1) (pc := 9) dX11_isKind_9 rfl <| EV.goto (pc := 10) (tgt := 14) dX11_isKind_10 (by decide) <| EV.zret (ty := .boolean) (pc := 14) dX11_isKind_14 rfl rfl h_6))
theorem puX11_isKind (d : Nat) (a0 : Int32) (σ : HS) (Q : Option AV → HS → Prop) (h : Q (some (vI (bI (0 ≤ a0 ∧ a0 < 3)))) σ) : MT d mX11_isKind [vI a0] σ Q := by
  refine wX11_isKind d a0 σ Q ?_
  repeat' (first | apply And.intro | intro _)
  all_goals first
    | exact (bI_t (P := 0 ≤ a0 ∧ a0 < 3) (by (simp only [Int32.le_iff_toInt_le, Int32.lt_iff_toInt_lt, ← Int32.toInt_inj, Int32.reduceToInt] at *; omega))) ▸ h
    | exact (bI_f (P := 0 ≤ a0 ∧ a0 < 3) (by (simp only [Int32.le_iff_toInt_le, Int32.lt_iff_toInt_lt, ← Int32.toInt_inj, Int32.reduceToInt] at *; omega))) ▸ h
section RP_X11_isKind
variable {d : Nat} {M : MI} {pc : Nat} {ls : List (Option AV)} {st : List AV} {σ : HS} {Q : Option AV → HS → Prop}
theorem rcp_X11_161 {a0 : Int32} (h : decode M.2.1 pc = .ok (.invokestatic 161, 3)) (hM : M.1.cls = RX11) (hd : 1 ≤ d) (hrest : (st.map catA).sum ≤ 8) (kk : EV d M (pc + 3) ls (vI (bI (0 ≤ a0 ∧ a0 < 3)) :: st) σ Q) : EV d M pc ls (vI a0 :: st) σ Q := EV.callS (As := [vI a0]) h (Nat.le_trans (by decide) hd) (by rw [hM]; exact ml_X11_161) rfl (Nat.le_of_ble_eq_true rfl) hrest rfl (puX11_isKind (d - 1) a0 σ (fun r σ2 => r = some (vI (bI (0 ≤ a0 ∧ a0 < 3))) ∧ σ2 = σ) ⟨rfl, rfl⟩) (fun rv σ2 h2 => by obtain ⟨rfl, rfl⟩ := h2; exact kk)
end RP_X11_isKind
theorem wX11_lot (d : Nat) (a0 : Int32) (a1 : Int32) (a2 : Int32) (σ : HS) (Q : Option AV → HS → Prop) (h0 : Q (some (vI ((((a0 * 3) + a1) * 61) + a2))) σ) : MT d mX11_lot [vI a0, vI a1, vI a2] σ Q :=
  show EV d mX11_lot 0 [some (vI a0), some (vI a1), some (vI a2)] [] σ Q from
  EV.iload_n (pc := 0) dX11_lot_0 rfl <| EV.iconst (v := 3) (pc := 1) dX11_lot_1 rfl <| EV.imul (pc := 2) dX11_lot_2 <| EV.iload_n (pc := 3) dX11_lot_3 rfl <| EV.iadd (pc := 4) dX11_lot_4 <| EV.bipush (v := 61) (pc := 5) dX11_lot_5 rfl <| EV.imul (pc := 7) dX11_lot_7 <| EV.iload_n (pc := 8) dX11_lot_8 rfl <| EV.iadd (pc := 9) dX11_lot_9 <| EV.iret (pc := 10) dX11_lot_10 rfl h0
theorem puX11_lot (d : Nat) (a0 : Int32) (a1 : Int32) (a2 : Int32) (σ : HS) (Q : Option AV → HS → Prop) (h : Q (some (vI ((a0 * 3 + a1) * 61 + a2))) σ) : MT d mX11_lot [vI a0, vI a1, vI a2] σ Q := wX11_lot d a0 a1 a2 σ Q h
section RP_X11_lot
variable {d : Nat} {M : MI} {pc : Nat} {ls : List (Option AV)} {st : List AV} {σ : HS} {Q : Option AV → HS → Prop}
theorem rcp_X11_164 {a0 : Int32} {a1 : Int32} {a2 : Int32} (h : decode M.2.1 pc = .ok (.invokestatic 164, 3)) (hM : M.1.cls = RX11) (hd : 1 ≤ d) (hrest : (st.map catA).sum ≤ 8) (kk : EV d M (pc + 3) ls (vI ((a0 * 3 + a1) * 61 + a2) :: st) σ Q) : EV d M pc ls (vI a2 :: vI a1 :: vI a0 :: st) σ Q := EV.callS (As := [vI a0, vI a1, vI a2]) h (Nat.le_trans (by decide) hd) (by rw [hM]; exact ml_X11_164) rfl (Nat.le_of_ble_eq_true rfl) hrest rfl (puX11_lot (d - 1) a0 a1 a2 σ (fun r σ2 => r = some (vI ((a0 * 3 + a1) * 61 + a2)) ∧ σ2 = σ) ⟨rfl, rfl⟩) (fun rv σ2 h2 => by obtain ⟨rfl, rfl⟩ := h2; exact kk)
end RP_X11_lot
theorem wX11_areMeasures (d : Nat) (a0 : Int32) (σ : HS) (Q : Option AV → HS → Prop) (h0 : ((a0 < 1 → Q (some (vI 0)) σ) ∧ (¬ a0 < 1 → ((100000 < a0 → Q (some (vI 0)) σ) ∧ (¬ 100000 < a0 → Q (some (vI 1)) σ))))) : MT d mX11_areMeasures [vI a0] σ Q :=
  show EV d mX11_areMeasures 0 [some (vI a0)] [] σ Q from
  EV.iload_n (pc := 0) dX11_areMeasures_0 rfl <| EV.iconst (v := 1) (pc := 1) dX11_areMeasures_1 rfl <| EV.icmp_lt (pc := 2) (tgt := 15) dX11_areMeasures_2 (by decide) (fun q_1 => have h_2 := h0.1 q_1; EV.iconst (v := 0) (pc := 15) dX11_areMeasures_15 rfl <| EV.zret (ty := .boolean) (pc := 16) dX11_areMeasures_16 rfl rfl h_2) (fun q_1 => have h_3 := h0.2 q_1; EV.iload_n (pc := 5) dX11_areMeasures_5 rfl <| EV.ldc (v := 100000) (pc := 6) dX11_areMeasures_6 cn_X11_156 <| EV.icmp_gt (pc := 8) (tgt := 15) dX11_areMeasures_8 (by decide) (fun q_4 => have h_5 := h_3.1 q_4; EV.iconst (v := 0) (pc := 15) dX11_areMeasures_15 rfl <| EV.zret (ty := .boolean) (pc := 16) dX11_areMeasures_16 rfl rfl h_5) (fun q_4 => have h_6 := h_3.2 q_4; EV.iconst (v := 1) (pc := 11) dX11_areMeasures_11 rfl <| EV.goto (pc := 12) (tgt := 16) dX11_areMeasures_12 (by decide) <| EV.zret (ty := .boolean) (pc := 16) dX11_areMeasures_16 rfl rfl h_6))
theorem puX11_areMeasures (d : Nat) (a0 : Int32) (σ : HS) (Q : Option AV → HS → Prop) (h : Q (some (vI (bI (1 ≤ a0 ∧ a0 ≤ 100000)))) σ) : MT d mX11_areMeasures [vI a0] σ Q := by
  refine wX11_areMeasures d a0 σ Q ?_
  repeat' (first | apply And.intro | intro _)
  all_goals first
    | exact (bI_t (P := 1 ≤ a0 ∧ a0 ≤ 100000) (by (simp only [Int32.le_iff_toInt_le, Int32.lt_iff_toInt_lt, ← Int32.toInt_inj, Int32.reduceToInt] at *; omega))) ▸ h
    | exact (bI_f (P := 1 ≤ a0 ∧ a0 ≤ 100000) (by (simp only [Int32.le_iff_toInt_le, Int32.lt_iff_toInt_lt, ← Int32.toInt_inj, Int32.reduceToInt] at *; omega))) ▸ h
section RP_X11_areMeasures
variable {d : Nat} {M : MI} {pc : Nat} {ls : List (Option AV)} {st : List AV} {σ : HS} {Q : Option AV → HS → Prop}
theorem rcp_X11_175 {a0 : Int32} (h : decode M.2.1 pc = .ok (.invokestatic 175, 3)) (hM : M.1.cls = RX11) (hd : 1 ≤ d) (hrest : (st.map catA).sum ≤ 8) (kk : EV d M (pc + 3) ls (vI (bI (1 ≤ a0 ∧ a0 ≤ 100000)) :: st) σ Q) : EV d M pc ls (vI a0 :: st) σ Q := EV.callS (As := [vI a0]) h (Nat.le_trans (by decide) hd) (by rw [hM]; exact ml_X11_175) rfl (Nat.le_of_ble_eq_true rfl) hrest rfl (puX11_areMeasures (d - 1) a0 σ (fun r σ2 => r = some (vI (bI (1 ≤ a0 ∧ a0 ≤ 100000))) ∧ σ2 = σ) ⟨rfl, rfl⟩) (fun rv σ2 h2 => by obtain ⟨rfl, rfl⟩ := h2; exact kk)
end RP_X11_areMeasures
theorem wX11_isLetter (d : Nat) (a0 : Int32) (σ : HS) (Q : Option AV → HS → Prop) (h0 : ((a0 < 97 → Q (some (vI 0)) σ) ∧ (¬ a0 < 97 → ((122 < a0 → Q (some (vI 0)) σ) ∧ (¬ 122 < a0 → Q (some (vI 1)) σ))))) : MT d mX11_isLetter [vI a0] σ Q :=
  show EV d mX11_isLetter 0 [some (vI a0)] [] σ Q from
  EV.iload_n (pc := 0) dX11_isLetter_0 rfl <| EV.bipush (v := 97) (pc := 1) dX11_isLetter_1 rfl <| EV.icmp_lt (pc := 3) (tgt := 16) dX11_isLetter_3 (by decide) (fun q_1 => have h_2 := h0.1 q_1; EV.iconst (v := 0) (pc := 16) dX11_isLetter_16 rfl <| EV.zret (ty := .boolean) (pc := 17) dX11_isLetter_17 rfl rfl h_2) (fun q_1 => have h_3 := h0.2 q_1; EV.iload_n (pc := 6) dX11_isLetter_6 rfl <| EV.bipush (v := 122) (pc := 7) dX11_isLetter_7 rfl <| EV.icmp_gt (pc := 9) (tgt := 16) dX11_isLetter_9 (by decide) (fun q_4 => have h_5 := h_3.1 q_4; EV.iconst (v := 0) (pc := 16) dX11_isLetter_16 rfl <| EV.zret (ty := .boolean) (pc := 17) dX11_isLetter_17 rfl rfl h_5) (fun q_4 => have h_6 := h_3.2 q_4; EV.iconst (v := 1) (pc := 12) dX11_isLetter_12 rfl <| EV.goto (pc := 13) (tgt := 17) dX11_isLetter_13 (by decide) <| EV.zret (ty := .boolean) (pc := 17) dX11_isLetter_17 rfl rfl h_6))
theorem puX11_isLetter (d : Nat) (a0 : Int32) (σ : HS) (Q : Option AV → HS → Prop) (h : Q (some (vI (bI (97 ≤ a0 ∧ a0 ≤ 122)))) σ) : MT d mX11_isLetter [vI a0] σ Q := by
  refine wX11_isLetter d a0 σ Q ?_
  repeat' (first | apply And.intro | intro _)
  all_goals first
    | exact (bI_t (P := 97 ≤ a0 ∧ a0 ≤ 122) (by (simp only [Int32.le_iff_toInt_le, Int32.lt_iff_toInt_lt, ← Int32.toInt_inj, Int32.reduceToInt] at *; omega))) ▸ h
    | exact (bI_f (P := 97 ≤ a0 ∧ a0 ≤ 122) (by (simp only [Int32.le_iff_toInt_le, Int32.lt_iff_toInt_lt, ← Int32.toInt_inj, Int32.reduceToInt] at *; omega))) ▸ h
section RP_X11_isLetter
variable {d : Nat} {M : MI} {pc : Nat} {ls : List (Option AV)} {st : List AV} {σ : HS} {Q : Option AV → HS → Prop}
theorem rcp_X11_207 {a0 : Int32} (h : decode M.2.1 pc = .ok (.invokestatic 207, 3)) (hM : M.1.cls = RX11) (hd : 1 ≤ d) (hrest : (st.map catA).sum ≤ 8) (kk : EV d M (pc + 3) ls (vI (bI (97 ≤ a0 ∧ a0 ≤ 122)) :: st) σ Q) : EV d M pc ls (vI a0 :: st) σ Q := EV.callS (As := [vI a0]) h (Nat.le_trans (by decide) hd) (by rw [hM]; exact ml_X11_207) rfl (Nat.le_of_ble_eq_true rfl) hrest rfl (puX11_isLetter (d - 1) a0 σ (fun r σ2 => r = some (vI (bI (97 ≤ a0 ∧ a0 ≤ 122))) ∧ σ2 = σ) ⟨rfl, rfl⟩) (fun rv σ2 h2 => by obtain ⟨rfl, rfl⟩ := h2; exact kk)
end RP_X11_isLetter
theorem wX11_isDigit (d : Nat) (a0 : Int32) (σ : HS) (Q : Option AV → HS → Prop) (h0 : ((a0 < 48 → Q (some (vI 0)) σ) ∧ (¬ a0 < 48 → ((57 < a0 → Q (some (vI 0)) σ) ∧ (¬ 57 < a0 → Q (some (vI 1)) σ))))) : MT d mX11_isDigit [vI a0] σ Q :=
  show EV d mX11_isDigit 0 [some (vI a0)] [] σ Q from
  EV.iload_n (pc := 0) dX11_isDigit_0 rfl <| EV.bipush (v := 48) (pc := 1) dX11_isDigit_1 rfl <| EV.icmp_lt (pc := 3) (tgt := 16) dX11_isDigit_3 (by decide) (fun q_1 => have h_2 := h0.1 q_1; EV.iconst (v := 0) (pc := 16) dX11_isDigit_16 rfl <| EV.zret (ty := .boolean) (pc := 17) dX11_isDigit_17 rfl rfl h_2) (fun q_1 => have h_3 := h0.2 q_1; EV.iload_n (pc := 6) dX11_isDigit_6 rfl <| EV.bipush (v := 57) (pc := 7) dX11_isDigit_7 rfl <| EV.icmp_gt (pc := 9) (tgt := 16) dX11_isDigit_9 (by decide) (fun q_4 => have h_5 := h_3.1 q_4; EV.iconst (v := 0) (pc := 16) dX11_isDigit_16 rfl <| EV.zret (ty := .boolean) (pc := 17) dX11_isDigit_17 rfl rfl h_5) (fun q_4 => have h_6 := h_3.2 q_4; EV.iconst (v := 1) (pc := 12) dX11_isDigit_12 rfl <| EV.goto (pc := 13) (tgt := 17) dX11_isDigit_13 (by decide) <| EV.zret (ty := .boolean) (pc := 17) dX11_isDigit_17 rfl rfl h_6))
theorem puX11_isDigit (d : Nat) (a0 : Int32) (σ : HS) (Q : Option AV → HS → Prop) (h : Q (some (vI (bI (48 ≤ a0 ∧ a0 ≤ 57)))) σ) : MT d mX11_isDigit [vI a0] σ Q := by
  refine wX11_isDigit d a0 σ Q ?_
  repeat' (first | apply And.intro | intro _)
  all_goals first
    | exact (bI_t (P := 48 ≤ a0 ∧ a0 ≤ 57) (by (simp only [Int32.le_iff_toInt_le, Int32.lt_iff_toInt_lt, ← Int32.toInt_inj, Int32.reduceToInt] at *; omega))) ▸ h
    | exact (bI_f (P := 48 ≤ a0 ∧ a0 ≤ 57) (by (simp only [Int32.le_iff_toInt_le, Int32.lt_iff_toInt_lt, ← Int32.toInt_inj, Int32.reduceToInt] at *; omega))) ▸ h
section RP_X11_isDigit
variable {d : Nat} {M : MI} {pc : Nat} {ls : List (Option AV)} {st : List AV} {σ : HS} {Q : Option AV → HS → Prop}
theorem rcp_X11_210 {a0 : Int32} (h : decode M.2.1 pc = .ok (.invokestatic 210, 3)) (hM : M.1.cls = RX11) (hd : 1 ≤ d) (hrest : (st.map catA).sum ≤ 8) (kk : EV d M (pc + 3) ls (vI (bI (48 ≤ a0 ∧ a0 ≤ 57)) :: st) σ Q) : EV d M pc ls (vI a0 :: st) σ Q := EV.callS (As := [vI a0]) h (Nat.le_trans (by decide) hd) (by rw [hM]; exact ml_X11_210) rfl (Nat.le_of_ble_eq_true rfl) hrest rfl (puX11_isDigit (d - 1) a0 σ (fun r σ2 => r = some (vI (bI (48 ≤ a0 ∧ a0 ≤ 57))) ∧ σ2 = σ) ⟨rfl, rfl⟩) (fun rv σ2 h2 => by obtain ⟨rfl, rfl⟩ := h2; exact kk)
end RP_X11_isDigit
theorem wX11_isGood (d : Nat) (σ : HS) (Q : Option AV → HS → Prop) (h0 : ((¬ σ.1 0 0 13 = 0 → Q (some (vI 0)) σ) ∧ (σ.1 0 0 13 = 0 → Q (some (vI 1)) σ))) : MT d mX11_isGood [vR 0 0] σ Q :=
  show EV d mX11_isGood 0 [some (vR 0 0)] [] σ Q from
  EV.aload_n (pc := 0) dX11_isGood_0 rfl <| rg_X11_192 (pc := 1) dX11_isGood_1 rfl (by decide) <| EV.if_ne (pc := 4) (tgt := 11) dX11_isGood_4 (by decide) (fun q_1 => have h_2 := h0.1 q_1; EV.iconst (v := 0) (pc := 11) dX11_isGood_11 rfl <| EV.zret (ty := .boolean) (pc := 12) dX11_isGood_12 rfl rfl h_2) (fun q_1 => have h_3 := h0.2 q_1; EV.iconst (v := 1) (pc := 7) dX11_isGood_7 rfl <| EV.goto (pc := 8) (tgt := 12) dX11_isGood_8 (by decide) <| EV.zret (ty := .boolean) (pc := 12) dX11_isGood_12 rfl rfl h_3)
theorem puX11_isGood (d : Nat) (σ : HS) (Q : Option AV → HS → Prop) (h : Q (some (vI (bI (σ.1 0 0 13 = 0)))) σ) : MT d mX11_isGood [vR 0 0] σ Q := by
  refine wX11_isGood d σ Q ?_
  repeat' (first | apply And.intro | intro _)
  all_goals first
    | exact (bI_t (P := σ.1 0 0 13 = 0) (by (simp only [Int32.le_iff_toInt_le, Int32.lt_iff_toInt_lt, ← Int32.toInt_inj, Int32.reduceToInt] at *; omega))) ▸ h
    | exact (bI_f (P := σ.1 0 0 13 = 0) (by (simp only [Int32.le_iff_toInt_le, Int32.lt_iff_toInt_lt, ← Int32.toInt_inj, Int32.reduceToInt] at *; omega))) ▸ h
section RP_X11_isGood
variable {d : Nat} {M : MI} {pc : Nat} {ls : List (Option AV)} {st : List AV} {σ : HS} {Q : Option AV → HS → Prop}
theorem rcp_X11_224 (h : decode M.2.1 pc = .ok (.invokevirtual 224, 3)) (hM : M.1.cls = RX11) (hd : 1 ≤ d) (hi : 0 < 1) (hrest : (st.map catA).sum ≤ 8) (kk : EV d M (pc + 3) ls (vI (bI (σ.1 0 0 13 = 0)) :: st) σ Q) : EV d M pc ls (vR 0 0 :: st) σ Q := EV.callV (As := []) h (Nat.le_trans (by decide) hd) (by rw [hM]; exact ml_X11_224) rfl (Nat.le_of_ble_eq_true rfl) (by decide) hi rfl rfl rfl hrest rfl (puX11_isGood (d - 1)  σ (fun r σ2 => r = some (vI (bI (σ.1 0 0 13 = 0))) ∧ σ2 = σ) ⟨rfl, rfl⟩) (fun rv σ2 h2 => by obtain ⟨rfl, rfl⟩ := h2; exact kk)
end RP_X11_isGood
theorem wX11_monthsFor (d : Nat) (a0 : Int32) (σ : HS) (Q : Option AV → HS → Prop) (h0 : Q (some (vI ((a0 + 29) / 30))) σ) : MT d mX11_monthsFor [vI a0] σ Q :=
  show EV d mX11_monthsFor 0 [some (vI a0)] [] σ Q from
  EV.iload_n (pc := 0) dX11_monthsFor_0 rfl <| EV.bipush (v := 29) (pc := 1) dX11_monthsFor_1 rfl <| EV.iadd (pc := 3) dX11_monthsFor_3 <| EV.bipush (v := 30) (pc := 4) dX11_monthsFor_4 rfl <| EV.idiv (pc := 6) dX11_monthsFor_6 (by decide) <| EV.iret (pc := 7) dX11_monthsFor_7 rfl h0
theorem puX11_monthsFor (d : Nat) (a0 : Int32) (σ : HS) (Q : Option AV → HS → Prop) (h : Q (some (vI ((a0 + 29) / 30))) σ) : MT d mX11_monthsFor [vI a0] σ Q := wX11_monthsFor d a0 σ Q h
section RP_X11_monthsFor
variable {d : Nat} {M : MI} {pc : Nat} {ls : List (Option AV)} {st : List AV} {σ : HS} {Q : Option AV → HS → Prop}
theorem rcp_X11_347 {a0 : Int32} (h : decode M.2.1 pc = .ok (.invokestatic 347, 3)) (hM : M.1.cls = RX11) (hd : 1 ≤ d) (hrest : (st.map catA).sum ≤ 8) (kk : EV d M (pc + 3) ls (vI ((a0 + 29) / 30) :: st) σ Q) : EV d M pc ls (vI a0 :: st) σ Q := EV.callS (As := [vI a0]) h (Nat.le_trans (by decide) hd) (by rw [hM]; exact ml_X11_347) rfl (Nat.le_of_ble_eq_true rfl) hrest rfl (puX11_monthsFor (d - 1) a0 σ (fun r σ2 => r = some (vI ((a0 + 29) / 30)) ∧ σ2 = σ) ⟨rfl, rfl⟩) (fun rv σ2 h2 => by obtain ⟨rfl, rfl⟩ := h2; exact kk)
end RP_X11_monthsFor
theorem wX11_isWord (d : Nat) (a0 : Int64) (σ : HS) (Q : Option AV → HS → Prop) (h0 : ((¬ σ.1 0 0 17 = 2 → Q (some (vI 0)) σ) ∧ (σ.1 0 0 17 = 2 → ((¬ lg_cmp σ.2 a0 = 0 → Q (some (vI 0)) σ) ∧ (lg_cmp σ.2 a0 = 0 → Q (some (vI 1)) σ))))) : MT d mX11_isWord [vR 0 0, vL a0] σ Q :=
  show EV d mX11_isWord 0 [some (vR 0 0), some (vL a0), none] [] σ Q from
  EV.aload_n (pc := 0) dX11_isWord_0 rfl <| rg_X11_204 (pc := 1) dX11_isWord_1 rfl (by decide) <| EV.iconst (v := 2) (pc := 4) dX11_isWord_4 rfl <| EV.icmp_ne (pc := 5) (tgt := 21) dX11_isWord_5 (by decide) (fun q_1 => have h_2 := h0.1 q_1; EV.iconst (v := 0) (pc := 21) dX11_isWord_21 rfl <| EV.zret (ty := .boolean) (pc := 22) dX11_isWord_22 rfl rfl h_2) (fun q_1 => have h_3 := h0.2 q_1; EV.aload_n (pc := 8) dX11_isWord_8 rfl <| rg_X11_216 (pc := 9) dX11_isWord_9 rfl (by decide) <| EV.lload_n (pc := 12) dX11_isWord_12 rfl <| EV.lcmp (pc := 13) dX11_isWord_13 <| EV.if_ne (pc := 14) (tgt := 21) dX11_isWord_14 (by decide) (fun q_4 => have h_5 := h_3.1 q_4; EV.iconst (v := 0) (pc := 21) dX11_isWord_21 rfl <| EV.zret (ty := .boolean) (pc := 22) dX11_isWord_22 rfl rfl h_5) (fun q_4 => have h_6 := h_3.2 q_4; EV.iconst (v := 1) (pc := 17) dX11_isWord_17 rfl <| EV.goto (pc := 18) (tgt := 22) dX11_isWord_18 (by decide) <| EV.zret (ty := .boolean) (pc := 22) dX11_isWord_22 rfl rfl h_6))
theorem puX11_isWord (d : Nat) (a0 : Int64) (σ : HS) (Q : Option AV → HS → Prop) (h : Q (some (vI (bI (σ.1 0 0 17 = 2 ∧ σ.2 = a0)))) σ) : MT d mX11_isWord [vR 0 0, vL a0] σ Q := by
  refine wX11_isWord d a0 σ Q ?_
  repeat' (first | apply And.intro | intro _)
  all_goals first
    | exact (bI_t (P := σ.1 0 0 17 = 2 ∧ σ.2 = a0) (by (first | (simp only [lg_cmp0] at *; simp_all; done) | simp_all))) ▸ h
    | exact (bI_f (P := σ.1 0 0 17 = 2 ∧ σ.2 = a0) (by (first | (simp only [lg_cmp0] at *; simp_all; done) | simp_all))) ▸ h
section RP_X11_isWord
variable {d : Nat} {M : MI} {pc : Nat} {ls : List (Option AV)} {st : List AV} {σ : HS} {Q : Option AV → HS → Prop}
theorem rcp_X11_236 {a0 : Int64} (h : decode M.2.1 pc = .ok (.invokevirtual 236, 3)) (hM : M.1.cls = RX11) (hd : 1 ≤ d) (hi : 0 < 1) (hrest : (st.map catA).sum ≤ 8) (kk : EV d M (pc + 3) ls (vI (bI (σ.1 0 0 17 = 2 ∧ σ.2 = a0)) :: st) σ Q) : EV d M pc ls (vL a0 :: vR 0 0 :: st) σ Q := EV.callV (As := [vL a0]) h (Nat.le_trans (by decide) hd) (by rw [hM]; exact ml_X11_236) rfl (Nat.le_of_ble_eq_true rfl) (by decide) hi rfl rfl rfl hrest rfl (puX11_isWord (d - 1) a0 σ (fun r σ2 => r = some (vI (bI (σ.1 0 0 17 = 2 ∧ σ.2 = a0))) ∧ σ2 = σ) ⟨rfl, rfl⟩) (fun rv σ2 h2 => by obtain ⟨rfl, rfl⟩ := h2; exact kk)
end RP_X11_isWord
theorem wX9_roomLeft (d : Nat) (i0 : Nat) (σ : HS) (Q : Option AV → HS → Prop) (hi0 : i0 < 8) (h0 : Q (some (vI ((((σ.1 3 i0 0) - (σ.1 63 i0 0)) - (σ.1 63 i0 1)) - (σ.1 63 i0 2)))) σ) : MT d mX9_roomLeft [vR 3 i0] σ Q :=
  show EV d mX9_roomLeft 0 [some (vR 3 i0)] [] σ Q from
  EV.aload_n (pc := 0) dX9_roomLeft_0 rfl <| rg_X9_20 (pc := 1) dX9_roomLeft_1 rfl hi0 <| EV.aload_n (pc := 4) dX9_roomLeft_4 rfl <| rg_X9_9 (pc := 5) dX9_roomLeft_5 rfl hi0 <| EV.iconst (v := 0) (pc := 8) dX9_roomLeft_8 rfl <| ra_63 (pc := 9) dX9_roomLeft_9 hi0 (by unfold vp_in; decide) <| EV.isub (pc := 10) dX9_roomLeft_10 <| EV.aload_n (pc := 11) dX9_roomLeft_11 rfl <| rg_X9_9 (pc := 12) dX9_roomLeft_12 rfl hi0 <| EV.iconst (v := 1) (pc := 15) dX9_roomLeft_15 rfl <| ra_63 (pc := 16) dX9_roomLeft_16 hi0 (by unfold vp_in; decide) <| EV.isub (pc := 17) dX9_roomLeft_17 <| EV.aload_n (pc := 18) dX9_roomLeft_18 rfl <| rg_X9_9 (pc := 19) dX9_roomLeft_19 rfl hi0 <| EV.iconst (v := 2) (pc := 22) dX9_roomLeft_22 rfl <| ra_63 (pc := 23) dX9_roomLeft_23 hi0 (by unfold vp_in; decide) <| EV.isub (pc := 24) dX9_roomLeft_24 <| EV.iret (pc := 25) dX9_roomLeft_25 rfl h0
theorem puX9_roomLeft (d : Nat) (i0 : Nat) (σ : HS) (Q : Option AV → HS → Prop) (hi0 : i0 < 8) (h : Q (some (vI (σ.1 3 i0 0 - σ.1 63 i0 0 - σ.1 63 i0 1 - σ.1 63 i0 2))) σ) : MT d mX9_roomLeft [vR 3 i0] σ Q := by
  refine wX9_roomLeft d i0 σ Q hi0 ?_
  exact h
section RP_X9_roomLeft
variable {d : Nat} {M : MI} {pc : Nat} {ls : List (Option AV)} {st : List AV} {σ : HS} {Q : Option AV → HS → Prop}
theorem rcp_X10_205 {i : Nat} (h : decode M.2.1 pc = .ok (.invokevirtual 205, 3)) (hM : M.1.cls = RX10) (hd : 1 ≤ d) (hi : i < 8) (hrest : (st.map catA).sum ≤ 8) (kk : EV d M (pc + 3) ls (vI (σ.1 3 i 0 - σ.1 63 i 0 - σ.1 63 i 1 - σ.1 63 i 2) :: st) σ Q) : EV d M pc ls (vR 3 i :: st) σ Q := EV.callV (As := []) h (Nat.le_trans (by decide) hd) (by rw [hM]; exact ml_X10_205) rfl (Nat.le_of_ble_eq_true rfl) (by decide) hi rfl rfl rfl hrest rfl (puX9_roomLeft (d - 1) i  σ (fun r σ2 => r = some (vI (σ.1 3 i 0 - σ.1 63 i 0 - σ.1 63 i 1 - σ.1 63 i 2)) ∧ σ2 = σ) hi ⟨rfl, rfl⟩) (fun rv σ2 h2 => by obtain ⟨rfl, rfl⟩ := h2; exact kk)
theorem rcp_X5_83 {i : Nat} (h : decode M.2.1 pc = .ok (.invokevirtual 83, 3)) (hM : M.1.cls = RX5) (hd : 1 ≤ d) (hi : i < 8) (hrest : (st.map catA).sum ≤ 8) (kk : EV d M (pc + 3) ls (vI (σ.1 3 i 0 - σ.1 63 i 0 - σ.1 63 i 1 - σ.1 63 i 2) :: st) σ Q) : EV d M pc ls (vR 3 i :: st) σ Q := EV.callV (As := []) h (Nat.le_trans (by decide) hd) (by rw [hM]; exact ml_X5_83) rfl (Nat.le_of_ble_eq_true rfl) (by decide) hi rfl rfl rfl hrest rfl (puX9_roomLeft (d - 1) i  σ (fun r σ2 => r = some (vI (σ.1 3 i 0 - σ.1 63 i 0 - σ.1 63 i 1 - σ.1 63 i 2)) ∧ σ2 = σ) hi ⟨rfl, rfl⟩) (fun rv σ2 h2 => by obtain ⟨rfl, rfl⟩ := h2; exact kk)
theorem rcp_X9_24 {i : Nat} (h : decode M.2.1 pc = .ok (.invokevirtual 24, 3)) (hM : M.1.cls = RX9) (hd : 1 ≤ d) (hi : i < 8) (hrest : (st.map catA).sum ≤ 8) (kk : EV d M (pc + 3) ls (vI (σ.1 3 i 0 - σ.1 63 i 0 - σ.1 63 i 1 - σ.1 63 i 2) :: st) σ Q) : EV d M pc ls (vR 3 i :: st) σ Q := EV.callV (As := []) h (Nat.le_trans (by decide) hd) (by rw [hM]; exact ml_X9_24) rfl (Nat.le_of_ble_eq_true rfl) (by decide) hi rfl rfl rfl hrest rfl (puX9_roomLeft (d - 1) i  σ (fun r σ2 => r = some (vI (σ.1 3 i 0 - σ.1 63 i 0 - σ.1 63 i 1 - σ.1 63 i 2)) ∧ σ2 = σ) hi ⟨rfl, rfl⟩) (fun rv σ2 h2 => by obtain ⟨rfl, rfl⟩ := h2; exact kk)
end RP_X9_roomLeft
