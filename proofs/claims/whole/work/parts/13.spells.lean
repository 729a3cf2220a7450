def SpB (σ : HS) (i f s : Nat) : Bool := (s - f == stLen.getD i 0) && (List.range (stLen.getD i 0)).all (fun j => σ.1 58 0 (f + j) == sch i j)
theorem SpB_t {σ : HS} {i f s : Nat} (h1 : s - f = stLen.getD i 0) (h2 : ∀ j, j < stLen.getD i 0 → σ.1 58 0 (f + j) = sch i j) : SpB σ i f s = true := by
  simp only [SpB, Bool.and_eq_true, beq_iff_eq, List.all_eq_true, List.mem_range]
  exact ⟨h1, h2⟩
theorem SpB_f1 {σ : HS} {i f s : Nat} (h1 : ¬ s - f = stLen.getD i 0) : ¬ SpB σ i f s = true := by
  simp only [SpB, Bool.and_eq_true, beq_iff_eq]
  exact fun h => h1 h.1
theorem SpB_f2 {σ : HS} {i f s j : Nat} (hj : j < stLen.getD i 0) (h1 : ¬ σ.1 58 0 (f + j) = sch i j) : ¬ SpB σ i f s = true := by
  simp only [SpB, Bool.and_eq_true, beq_iff_eq, List.all_eq_true, List.mem_range]
  exact fun h => h1 (h.2 j hj)
section SPL
variable {d : Nat} {pc : Nat} {ls : List (Option AV)} {st : List AV} {σ : HS} {Q : Option AV → HS → Prop}
theorem sp_len {i : Nat} (h : decode mX8_spells.2.1 pc = .ok (.invokevirtual 96, 3)) (hd : 2 ≤ d) (hi : i < 15) (hrest : (st.map catA).sum ≤ 8) (kk : EV d mX8_spells (pc + 3) ls (vI (nI (stLen.getD i 0)) :: st) σ Q) : EV d mX8_spells pc ls (vR 105 i :: st) σ Q :=
  EV.callStr (As := []) (Q' := fun r σ2 => r = some (vI (nI (stLen.getD i 0))) ∧ σ2 = σ) h (by omega) ml_X8_96 rfl (Nat.le_of_ble_eq_true rfl) hi rfl hrest rfl (pu_length (d - 1) i σ _ (by omega) hi ⟨rfl, rfl⟩) (fun rv σ2 h2 => by obtain ⟨rfl, rfl⟩ := h2; exact kk)
theorem sp_char {i j : Nat} (h : decode mX8_spells.2.1 pc = .ok (.invokevirtual 102, 3)) (hd : 4 ≤ d) (hi : i < 15) (hj : j < stLen.getD i 0) (hrest : (st.map catA).sum ≤ 8) (kk : EV d mX8_spells (pc + 3) ls (vI (sch i j) :: st) σ Q) : EV d mX8_spells pc ls (vI (nI j) :: vR 105 i :: st) σ Q :=
  EV.callStr (As := [vI (nI j)]) (Q' := fun r σ2 => r = some (vI (sch i j)) ∧ σ2 = σ) h (by omega) ml_X8_102 rfl (Nat.le_of_ble_eq_true rfl) hi rfl hrest rfl (pu_charAt (d - 1) i j σ _ (by omega) hi hj ⟨rfl, rfl⟩) (fun rv σ2 h2 => by obtain ⟨rfl, rfl⟩ := h2; exact kk)
end SPL
set_option maxRecDepth 20000 in
theorem spells_loop (d i f s : Nat) (σ : HS) (Q : Option AV → HS → Prop) (hd : 4 ≤ d) (hi : i < 15) (hs : s ≤ 1000) (hlen : s - f = stLen.getD i 0) (hf : f ≤ s) (h : Q (some (vI (bI (SpB σ i f s = true)))) σ) : ∀ m j : Nat, j + m = stLen.getD i 0 → (∀ j', j' < j → σ.1 58 0 (f + j') = sch i j') → EV d mX8_spells 21 [some (vR 105 i), some (vR 58 0), some (vI (nI f)), some (vI (nI s)), some (vI (nI j))] [] σ Q := by
  have h8 := (sch_all i hi).1
  intro m
  induction m with
  | zero =>
    intro j hj hall
    refine EV.iload (pc := 21) dX8_spells_21 rfl <| EV.aload_n (pc := 23) dX8_spells_23 rfl <| sp_len (pc := 24) dX8_spells_24 (by omega) hi (Nat.le_of_ble_eq_true rfl) <| EV.icmp_ge (pc := 27) (tgt := 53) dX8_spells_27 (by decide) (fun _ => EV.iconst (v := 1) (pc := 53) dX8_spells_53 rfl <| EV.zret (ty := .boolean) (pc := 54) dX8_spells_54 rfl rfl ?_) (fun q => absurd (nI_le (by omega) (by omega)) q)
    rw [bI_t (SpB_t hlen (fun j' hj' => hall j' (by omega)))] at h
    exact h
  | succ m ih =>
    intro j hj hall
    refine EV.iload (pc := 21) dX8_spells_21 rfl <| EV.aload_n (pc := 23) dX8_spells_23 rfl <| sp_len (pc := 24) dX8_spells_24 (by omega) hi (Nat.le_of_ble_eq_true rfl) <| EV.icmp_ge (pc := 27) (tgt := 53) dX8_spells_27 (by decide) (fun q => absurd q (nI_ge (by omega) (by omega))) (fun _ => EV.aload_n (pc := 30) dX8_spells_30 rfl <| EV.iload_n (pc := 31) dX8_spells_31 rfl <| EV.iload (pc := 32) dX8_spells_32 rfl <| EV.iadd (pc := 34) dX8_spells_34 ?_)
    rw [nI_add]
    refine ra_58 (pc := 35) dX8_spells_35 (by decide) (vp_in_nI (n := f + j) (by omega) (by omega)) <| EV.aload_n (pc := 36) dX8_spells_36 rfl <| EV.iload (pc := 37) dX8_spells_37 rfl <| sp_char (pc := 39) dX8_spells_39 hd hi (by omega) (Nat.le_of_ble_eq_true rfl) ?_
    rw [nI_clamp (by omega)]
    refine EV.icmp_eq (pc := 42) (tgt := 47) dX8_spells_42 (by decide) (fun q => EV.iincN (v := 1) (ls2 := fun y => [some (vR 105 i), some (vR 58 0), some (vI (nI f)), some (vI (nI s)), some (vI y)]) (pc := 47) dX8_spells_47 rfl rfl (by decide) rfl (fun _ => rfl) <| fun x ex => EV.goto (pc := 50) (tgt := 21) dX8_spells_50 (by decide) ?_) (fun q => EV.iconst (v := 0) (pc := 45) dX8_spells_45 rfl <| EV.zret (ty := .boolean) (pc := 46) dX8_spells_46 rfl rfl ?_)
    · rw [nI_1] at ex
      subst ex
      refine ih (j + 1) (by omega) (fun j' hj' => ?_)
      by_cases e : j' = j
      · subst e; exact q
      · exact hall j' (by omega)
    · rw [bI_f (SpB_f2 (by omega) q)] at h
      exact h
set_option maxRecDepth 20000 in
theorem spells_ok (d i f s : Nat) (σ : HS) (Q : Option AV → HS → Prop) (hd : 4 ≤ d) (hi : i < 15) (hf : f ≤ s) (hs : s ≤ 1000) (h : Q (some (vI (bI (SpB σ i f s = true)))) σ) : MT d mX8_spells [vR 105 i, vR 58 0, vI (nI f), vI (nI s)] σ Q := by
  have h8 := (sch_all i hi).1
  show EV d mX8_spells 0 [some (vR 105 i), some (vR 58 0), some (vI (nI f)), some (vI (nI s)), none] [] σ Q
  refine EV.iload_n (pc := 0) dX8_spells_0 rfl <| EV.iload_n (pc := 1) dX8_spells_1 rfl <| EV.isub (pc := 2) dX8_spells_2 ?_
  rw [pk_sub hf]
  refine EV.aload_n (pc := 3) dX8_spells_3 rfl <| sp_len (pc := 4) dX8_spells_4 (by omega) hi (Nat.le_of_ble_eq_true rfl) <| EV.icmp_ne (pc := 7) (tgt := 16) dX8_spells_7 (by decide) (fun q => EV.iconst (v := 0) (pc := 16) dX8_spells_16 rfl <| EV.zret (ty := .boolean) (pc := 17) dX8_spells_17 rfl rfl ?_) (fun q => EV.iload_n (pc := 10) dX8_spells_10 rfl <| EV.aload_n (pc := 11) dX8_spells_11 rfl <| EV.alen (v := 1000) (pc := 12) dX8_spells_12 (by decide) rfl (by decide) (by decide) rfl <| EV.icmp_le (pc := 13) (tgt := 18) dX8_spells_13 (by decide) (fun _ => EV.iconst (v := 0) (pc := 18) dX8_spells_18 rfl <| EV.istoreK (ls2 := [some (vR 105 i), some (vR 58 0), some (vI (nI f)), some (vI (nI s)), some (vI 0)]) (pc := 19) dX8_spells_19 (by decide) rfl rfl ?_) (fun q2 => absurd (show nI s ≤ nI 1000 from nI_le hs (by omega)) q2))
  · rw [bI_f (SpB_f1 (fun e => q (by rw [e])))] at h
    exact h
  · have e := (nI_eq (by omega) (by omega)).mp q
    have := spells_loop d i f s σ Q hd hi hs e hf h (stLen.getD i 0) 0 (by omega) (fun _ hj => absurd hj (Nat.not_lt_zero _))
    rw [nI_0] at this
    exact this
