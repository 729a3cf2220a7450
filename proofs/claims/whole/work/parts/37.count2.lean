def vcF (p : Nat → Bool) (kp am : Nat → Int32) : Nat → Nat → Int32
  | 0 => fun _ => -1
  | j + 1 => fun i => if p j = true ∧ i = vN (kp j) then am j else vcF p kp am j i
theorem vcF_no {p : Nat → Bool} {kp am : Nat → Int32} {j : Nat} (h : p j = false) : vcF p kp am (j + 1) = vcF p kp am j := by
  funext i
  show (if _ then _ else _) = _
  rw [if_neg (fun z => by rw [h] at z; exact absurd z.1 (by decide))]
theorem vcF_yes {p : Nat → Bool} {kp am : Nat → Int32} {j : Nat} (h : p j = true) : vcF p kp am (j + 1) = fun i => if i = vN (kp j) then am j else vcF p kp am j i := by
  funext i
  show (if _ then _ else _) = (if _ then _ else _)
  by_cases e : i = vN (kp j)
  · rw [if_pos ⟨h, e⟩, if_pos e]
  · rw [if_neg (fun z => e z.2), if_neg e]
theorem vcF_cong {p p' : Nat → Bool} {kp kp' am am' : Nat → Int32} : ∀ {n : Nat}, (∀ j, j < n → p j = p' j ∧ kp j = kp' j ∧ am j = am' j) → vcF p kp am n = vcF p' kp' am' n
  | 0, _ => rfl
  | n + 1, h => by
    obtain ⟨h1, h2, h3⟩ := h n (by omega)
    have ih := vcF_cong (n := n) (fun j hj => h j (by omega))
    funext i
    show (if _ then _ else _) = (if _ then _ else _)
    rw [h1, h2, h3, ih]
theorem vcF_rng {p : Nat → Bool} {kp am : Nat → Int32} : ∀ {n : Nat}, (∀ j, j < n → isN (am j) 1000000) → ∀ i, vcF p kp am n i = -1 ∨ isN (vcF p kp am n i) 1000000
  | 0, _, i => Or.inl rfl
  | n + 1, h, i => by
    show (if _ then _ else _) = _ ∨ isN (if _ then _ else _) _
    split
    · exact Or.inr (h n (by omega))
    · exact vcF_rng (fun j hj => h j (by omega)) i
theorem vcF_none {p : Nat → Bool} {kp am : Nat → Int32} : ∀ {n : Nat}, (∀ j, j < n → p j = false) → vcF p kp am n = fun _ => -1
  | 0, _ => rfl
  | n + 1, h => by rw [vcF_no (h n (by omega)), vcF_none (fun j hj => h j (by omega))]
def cn5 (v : Nat → Int32) (x : Int32) : Nat → Nat
  | 0 => 0
  | n + 1 => cn5 v x n + (if v n = x then 1 else 0)
theorem cn5_le (v : Nat → Int32) (x : Int32) : ∀ n, cn5 v x n ≤ n
  | 0 => Nat.le_refl _
  | n + 1 => by
    have := cn5_le v x n
    show cn5 v x n + (if _ then 1 else 0) ≤ n + 1
    split <;> omega
def vcs (v : Nat → Int32) (i : Nat) : Nat := if v i = -1 then 0 else cn5 v (v i) 5
def bF (v : Nat → Int32) : Nat → Int32 × Nat
  | 0 => (-1, 0)
  | i + 1 => if (bF v i).2 < vcs v i ∨ (0 < vcs v i ∧ vcs v i = (bF v i).2 ∧ v i < (bF v i).1) then (v i, vcs v i) else bF v i
theorem vcs_le (v : Nat → Int32) (i : Nat) : vcs v i ≤ 5 := by
  unfold vcs
  split
  · omega
  · exact cn5_le _ _ _
theorem bF_le (v : Nat → Int32) : ∀ i, (bF v i).2 ≤ 5
  | 0 => by show 0 ≤ 5; omega
  | i + 1 => by
    unfold bF
    split
    · exact vcs_le v i
    · exact bF_le v i
theorem bF_yes {v : Nat → Int32} {i : Nat} (h : (bF v i).2 < vcs v i ∨ (0 < vcs v i ∧ vcs v i = (bF v i).2 ∧ v i < (bF v i).1)) : bF v (i + 1) = (v i, vcs v i) := by
  show (if _ then _ else _) = _
  rw [if_pos h]
theorem bF_no {v : Nat → Int32} {i : Nat} (h : ¬ ((bF v i).2 < vcs v i ∨ (0 < vcs v i ∧ vcs v i = (bF v i).2 ∧ v i < (bF v i).1))) : bF v (i + 1) = bF v i := by
  show (if _ then _ else _) = _
  rw [if_neg h]
/-! the class -/
theorem voicesFor_loop (d : Nat) (x : Int32) (v : Nat → Int32) (σ : HS) (Q : Option AV → HS → Prop) (hv : ∀ i, i < 5 → σ.1 104 0 i = v i) (h : Q (some (vI (nI (cn5 v x 5)))) σ) : ∀ m j : Nat, j + m = 5 → atX3_voicesFor_4 d Q σ x (nI (cn5 v x j)) (nI j) := by
  intro m
  induction m with
  | zero =>
    intro j hj
    have e : j = 5 := by omega
    subst e
    exact wX3_voicesFor_4 d Q σ _ _ _ ⟨fun _ => h, fun q => absurd (by decide) q⟩
  | succ m ih =>
    intro j hj
    have hc := cn5_le v x j
    refine wX3_voicesFor_4 d Q σ _ _ _ ⟨fun q => absurd q (nI_ge (a := j) (b := 5) (by omega) (by omega)), fun _ => ⟨vp_in_nI (by omega) (by omega), fun q => ?_, fun q => ?_⟩⟩
    · rintro _ rfl
      rw [nI_clamp (by omega), hv j (by omega)] at q
      have := ih (j + 1) (by omega)
      have e : cn5 v x (j + 1) = cn5 v x j := by show cn5 v x j + (if _ then 1 else 0) = _; rw [if_neg q]; rfl
      rw [e] at this
      rw [nI_1]
      exact this
    · rintro _ rfl _ rfl
      rw [nI_clamp (by omega), hv j (by omega)] at q
      have := ih (j + 1) (by omega)
      have e : cn5 v x (j + 1) = cn5 v x j + 1 := by show cn5 v x j + (if _ then 1 else 0) = _; rw [if_pos q]
      rw [e] at this
      rw [nI_1, nI_1]
      exact this
/-- what hear leaves: the voices, and the best -/
def hrS (σ : HS) (v : Nat → Int32) (b : Int32) (n : Nat) : HS := up (up (upB σ 104 0 0 5 v) 11 0 8 b) 11 0 9 (nI n)
theorem hrS_voice {σ : HS} {v : Nat → Int32} {b : Int32} {n i : Nat} (hi : i < 5) : (hrS σ v b n).1 104 0 i = v i := by
  unfold hrS
  rw [up_ne (by decide), up_ne (by decide), upB_k, if_pos ⟨rfl, by omega, by omega⟩, Nat.sub_zero]
theorem hrS_best {σ : HS} {v : Nat → Int32} {b : Int32} {n : Nat} : (hrS σ v b n).1 11 0 8 = b := by
  unfold hrS
  simp [up_k]
theorem hrS_voices {σ : HS} {v : Nat → Int32} {b : Int32} {n : Nat} : (hrS σ v b n).1 11 0 9 = nI n := by
  unfold hrS
  simp [up_k]
theorem hrS_up {σ : HS} {v : Nat → Int32} {b b2 : Int32} {n n2 : Nat} : up (up (hrS σ v b n) 11 0 8 b2) 11 0 9 (nI n2) = hrS σ v b2 n2 := by
  unfold hrS
  refine hs_ext (fun k i s => ?_) rfl
  simp only [up]
  by_cases e1 : k = 11 ∧ i = 0 ∧ s = 9
  · rw [if_pos e1, if_pos e1]
  · by_cases e2 : k = 11 ∧ i = 0 ∧ s = 8
    · simp only [if_neg e1, if_pos e2]
    · simp only [if_neg e1, if_neg e2]
theorem hear_loop (d : Nat) (v : Nat → Int32) (σ : HS) (Q : Option AV → HS → Prop) (hd : 1 ≤ d) (h : Q none (hrS σ v (bF v 5).1 (bF v 5).2)) : ∀ m j : Nat, j + m = 5 → atX3_hear_20 d Q (hrS σ v (bF v j).1 (bF v j).2) (nI j) := by
  intro m
  induction m with
  | zero =>
    intro j hj
    have e : j = 5 := by omega
    subst e
    exact wX3_hear_20 d Q _ _ hd ⟨fun _ => h, fun q => absurd (by decide) q⟩
  | succ m ih =>
    intro j hj
    have vj : vp_in (nI j) 5 := vp_in_nI (by omega) (by omega)
    have hb := bF_le v j
    have hc := vcs_le v j
    have nx := ih (j + 1) (by omega)
    have k52 : atX3_hear_52 d Q (hrS σ v (bF v j).1 (bF v j).2) (nI j) (nI (vcs v j)) := by
      refine wX3_hear_52 d Q _ _ _ ?_
      rw [hrS_voices, hrS_best, nI_clamp (by omega), hrS_voice (by omega)]
      refine ⟨fun q => ⟨vj, ?_⟩, fun q => ⟨fun q2 => ?_, fun q2 => ⟨fun q3 => ?_, fun q3 => ⟨vj, fun q4 => ?_, fun q4 => ⟨vj, ?_⟩⟩⟩⟩⟩
      · rintro _ rfl _ rfl _ rfl
        have z := (nI_ltI (by omega) (by omega)).mp q
        rw [bF_yes (Or.inl z)] at nx
        rw [hrS_up, nI_1]
        exact nx
      · rintro _ rfl
        have z : vcs v j ≤ 0 := (nI_leI (a := vcs v j) (b := 0) (by omega) (by omega)).mp q2
        rw [bF_no (by omega)] at nx
        rw [nI_1]
        exact nx
      · rintro _ rfl
        have z1 := fun z => q (nI_lt (a := (bF v j).2) (b := vcs v j) z (by omega))
        have z3 := fun z => q3 ((nI_eq (a := vcs v j) (b := (bF v j).2) (by omega) (by omega)).mpr z)
        rw [bF_no (fun z => z.elim z1 (fun w => z3 w.2.1))] at nx
        rw [nI_1]
        exact nx
      · rintro _ rfl
        have z1 := fun z => q (nI_lt (a := (bF v j).2) (b := vcs v j) z (by omega))
        rw [bF_no (fun z => z.elim z1 (fun w => absurd q4 (Int32.not_le.mpr w.2.2)))] at nx
        rw [nI_1]
        exact nx
      · rintro _ rfl _ rfl _ rfl
        have z2 : 0 < vcs v j := Nat.lt_of_not_le (fun z => q2 (nI_le (b := 0) z (by omega)))
        have z3 := (nI_eq (a := vcs v j) (b := (bF v j).2) (by omega) (by omega)).mp q3
        rw [bF_yes (Or.inr ⟨z2, z3, Int32.not_le.mp q4⟩)] at nx
        rw [hrS_up, nI_1]
        exact nx
    refine wX3_hear_20 d Q _ _ hd ⟨fun q => absurd q (nI_ge (a := j) (b := 5) (by omega) (by omega)), fun _ => ⟨vj, ?_⟩⟩
    rw [nI_clamp (by omega), hrS_voice (by omega)]
    refine ⟨fun q => ⟨vj, wX3_voicesFor (d - 1) _ _ _ (voicesFor_loop (d - 1) _ v _ _ (fun i hi => hrS_voice hi) ⟨_, rfl, ?_⟩ 5 0 (by omega))⟩, fun q => ?_⟩
    · have e : vcs v j = 0 := if_pos q
      rw [e] at k52
      exact k52
    · have e : vcs v j = cn5 v (v j) 5 := if_neg q
      rw [← e]
      exact k52
def pC (σ : HS) (s m k : Int32) (j : Nat) : Bool := decide (σ.1 99 0 j = s) && decide (σ.1 100 0 j = m) && decide (¬ k < σ.1 102 0 j) && (decide (σ.1 103 0 j = -1) || decide (k < σ.1 103 0 j))
theorem gather_loop (d c : Nat) (s m k : Int32) (σ : HS) (Q : Option AV → HS → Prop) (hc : c ≤ 60) (e : σ.1 11 0 6 = nI c) (hkp : ∀ j, j < c → ∃ p, p < 5 ∧ σ.1 98 0 j = nI p) (h : Q none (upB σ 104 0 0 5 (vcF (pC σ s m k) (fun j => σ.1 98 0 j) (fun j => σ.1 101 0 j) c))) :
    ∀ r j : Nat, j + r = c → atX3_gatherVoices_11 d Q (upB σ 104 0 0 5 (vcF (pC σ s m k) (fun j => σ.1 98 0 j) (fun j => σ.1 101 0 j) j)) s m k (nI j) := by
  intro r
  induction r with
  | zero =>
    intro j hj
    have e1 : j = c := by omega
    subst e1
    exact wX3_gatherVoices_11 d Q _ _ _ _ _ ⟨fun _ => h, fun q => absurd (by rw [upB_ne (by decide), e]; exact nI_le (Nat.le_refl _) (by omega)) q⟩
  | succ r ih =>
    intro j hj
    have vj : vp_in (nI j) 60 := vp_in_nI (by omega) (by omega)
    have nx := ih (j + 1) (by omega)
    have skip : pC σ s m k j = false → ∀ y, y = nI j + 1 → atX3_gatherVoices_11 d Q (upB σ 104 0 0 5 (vcF (pC σ s m k) (fun j => σ.1 98 0 j) (fun j => σ.1 101 0 j) j)) s m k y := by
      rintro z _ rfl
      rw [vcF_no z] at nx
      rw [nI_1]
      exact nx
    generalize hV : vcF (pC σ s m k) (fun j => σ.1 98 0 j) (fun j => σ.1 101 0 j) j = V at skip ⊢
    have rd : ∀ kk, kk ≠ 104 → (upB σ 104 0 0 5 V).1 kk = σ.1 kk := fun kk hk => upB_ne hk
    have k76 : ∀ x5 s0 : Int32, (x5 = 0 ∨ x5 = 1) → (s0 = 0 ∨ s0 = 1) → ((x5 ≠ 0) ↔ (σ.1 99 0 j = s ∧ σ.1 100 0 j = m)) → (s0 = 0 ↔ (σ.1 103 0 j = -1 ∨ k < σ.1 103 0 j)) → atX3_gatherVoices_76 d Q (upB σ 104 0 0 5 V) s m k (nI j) x5 s0 := by
      intro x5 s0 _ _ i5 i0
      refine wX3_gatherVoices_76 d Q _ _ _ _ _ _ _ ?_
      rw [rd 102 (by decide), rd 98 (by decide), rd 101 (by decide), nI_clamp (by omega)]
      refine ⟨fun q => skip ?_, fun q => ⟨vj, fun q2 => skip ?_, fun q2 => ⟨fun q3 => skip ?_, fun q3 => ⟨vj, vj, ?_, ?_⟩⟩⟩⟩
      · have : ¬ (σ.1 99 0 j = s ∧ σ.1 100 0 j = m) := fun z => (i5.mpr z) q
        simp only [pC, Bool.and_eq_false_iff, decide_eq_false_iff_not]
        by_cases z : σ.1 99 0 j = s
        · exact Or.inl (Or.inl (Or.inr (fun z2 => this ⟨z, z2⟩)))
        · exact Or.inl (Or.inl (Or.inl z))
      · simp only [pC, Bool.and_eq_false_iff, decide_eq_false_iff_not]
        exact Or.inl (Or.inr (fun z => z q2))
      · have : ¬ (σ.1 103 0 j = -1 ∨ k < σ.1 103 0 j) := fun z => q3 (i0.mpr z)
        simp only [pC, Bool.and_eq_false_iff, Bool.or_eq_false_iff, decide_eq_false_iff_not]
        exact Or.inr ⟨fun z => this (Or.inl z), fun z => this (Or.inr z)⟩
      · obtain ⟨p, hp, ep⟩ := hkp j (by omega)
        rw [ep]; exact vp_in_nI hp (by omega)
      · rintro _ rfl _ rfl
        obtain ⟨p, hp, ep⟩ := hkp j (by omega)
        have hp1 : pC σ s m k j = true := by
          simp only [pC, Bool.and_eq_true, Bool.or_eq_true, decide_eq_true_eq]
          exact ⟨⟨⟨(i5.mp q).1, (i5.mp q).2⟩, q2⟩, i0.mp q3⟩
        rw [vcF_yes hp1, hV] at nx
        rw [ep, nI_clamp (by omega), upB0_up (by omega), nI_1]
        rw [ep, vN_nI (by omega)] at nx
        exact nx
    have k47 : ∀ x5 : Int32, (x5 = 0 ∨ x5 = 1) → ((x5 ≠ 0) ↔ (σ.1 99 0 j = s ∧ σ.1 100 0 j = m)) → atX3_gatherVoices_47 d Q (upB σ 104 0 0 5 V) s m k (nI j) x5 := by
      intro x5 hx i5
      refine wX3_gatherVoices_47 d Q _ _ _ _ _ _ ?_
      rw [rd 103 (by decide), nI_clamp (by omega)]
      refine ⟨vj, fun q => wX3_gatherVoices_75 d Q _ _ _ _ _ _ (k76 x5 0 hx (Or.inl rfl) i5 ⟨fun _ => Or.inl q, fun _ => rfl⟩), fun q => ⟨vj, fun q2 => wX3_gatherVoices_75 d Q _ _ _ _ _ _ (k76 x5 0 hx (Or.inl rfl) i5 ⟨fun _ => Or.inr q2, fun _ => rfl⟩), fun q2 => k76 x5 1 hx (Or.inr rfl) i5 ⟨fun z => absurd z (by decide), fun z => (z.elim q q2).elim⟩⟩⟩
    refine wX3_gatherVoices_11 d Q _ _ _ _ _ ?_
    rw [rd 11 (by decide), rd 99 (by decide), rd 100 (by decide), nI_clamp (by omega), e]
    refine ⟨fun q => absurd q (nI_ge (by omega) (by omega)), fun _ => ⟨vj, fun q => wX3_gatherVoices_46 d Q _ _ _ _ _ (k47 0 (Or.inl rfl) ⟨fun z => absurd rfl z, fun z => absurd z.1 q⟩), fun q => ⟨vj, fun q2 => wX3_gatherVoices_46 d Q _ _ _ _ _ (k47 0 (Or.inl rfl) ⟨fun z => absurd rfl z, fun z => absurd z.2 q2⟩), fun q2 => k47 1 (Or.inr rfl) ⟨fun _ => ⟨q, q2⟩, fun _ => by decide⟩⟩⟩⟩
theorem hear_ok (d c : Nat) (s m k : Int32) (σ : HS) (Q : Option AV → HS → Prop) (hd : 2 ≤ d) (hc : c ≤ 60) (e : σ.1 11 0 6 = nI c) (hkp : ∀ j, j < c → ∃ p, p < 5 ∧ σ.1 98 0 j = nI p)
    (h : ∀ v, v = vcF (pC σ s m k) (fun j => σ.1 98 0 j) (fun j => σ.1 101 0 j) c → Q none (hrS σ v (bF v 5).1 (bF v 5).2)) : MT d mX3_hear [vR 11 0, vI s, vI m, vI k] σ Q := by
  refine wX3_hear d s m k σ Q (by omega) (wX3_gatherVoices (d - 1) s m k σ _ (by omega) (pu_fill (d - 1 - 1) 104 0 5 (-1) σ _ (by decide) rfl rfl (by decide) (fun _ => rfl) (by decide) ⟨rfl, ?_⟩))
  refine gather_loop (d - 1) c s m k σ _ hc e hkp ⟨rfl, ?_⟩ c 0 (by omega)
  rintro _ rfl _ rfl
  exact hear_loop d _ σ Q (by omega) (h _ rfl) 5 0 (by omega)
