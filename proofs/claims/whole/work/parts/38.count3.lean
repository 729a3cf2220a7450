def mcS (σ : HS) (v : Nat → Int32) (n : Nat) : HS := up (upB σ 57 0 0 5 v) 0 0 69 (nI n)
theorem mcS_v {σ : HS} {v : Nat → Int32} {n i : Nat} (hi : i < 5) : (mcS σ v n).1 57 0 i = v i := by
  unfold mcS
  rw [up_ne (by decide), upB_k, if_pos ⟨rfl, by omega, by omega⟩, Nat.sub_zero]
theorem mcS_a {σ : HS} {v : Nat → Int32} {n : Nat} : (mcS σ v n).1 0 0 69 = nI n := by
  unfold mcS
  rw [up_same]
theorem mcS_up {σ : HS} {v : Nat → Int32} {n n2 : Nat} : up (mcS σ v n) 0 0 69 (nI n2) = mcS σ v n2 := by
  unfold mcS
  rw [up_up]
def pM (σ : HS) (a0 a1 a2 k : Int32) (j : Nat) : Bool := decide (σ.1 51 0 j = a0) && decide (σ.1 52 0 j = a1) && decide (σ.1 53 0 j = a2) && decide (¬ k < σ.1 55 0 j) && (decide (σ.1 56 0 j < 0) || decide (¬ σ.1 56 0 j ≤ k))
theorem mbest_loop (d : Nat) (v : Nat → Int32) (σ : HS) (Q : Option AV → HS → Prop) (hv : ∀ i, v i = -1 ∨ isN (v i) 1000000) (h : Q (some (vI (bF v 5).1)) (mcS σ v (bF v 5).2)) : ∀ m p : Nat, p + m = 5 → atX11_count_138 d Q (mcS σ v (bF v p).2) (bF v p).1 (nI p) := by
  intro m
  induction m with
  | zero =>
    intro j hj
    have e : j = 5 := by omega
    subst e
    exact wX11_count_138 d Q _ _ _ ⟨fun _ => h, fun q => absurd (by decide) q⟩
  | succ m ih =>
    intro p hp
    have vp : vp_in (nI p) 5 := vp_in_nI (by omega) (by omega)
    have nx := ih (p + 1) (by omega)
    have hb := bF_le v p
    have hc := vcs_le v p
    have neg : v p < 0 ↔ v p = -1 := by
      rcases hv p with z | ⟨w, hw, z⟩
      · rw [z]; decide
      · rw [z]
        constructor
        · intro q; exact absurd q (nI_pos (by omega))
        · intro q
          have : (0 : Int32) ≤ nI w := nI_pos' (by omega)
          rw [q] at this
          exact absurd this (by decide)
    have inner : ∀ r q : Nat, q + r = 5 → atX11_count_150 d Q (mcS σ v (bF v p).2) (bF v p).1 (nI p) (nI (if v p = -1 then 0 else cn5 v (v p) q)) (nI q) := by
      intro r
      induction r with
      | zero =>
        intro q hq
        have e : q = 5 := by omega
        subst e
        have ev : (if v p = -1 then 0 else cn5 v (v p) 5) = vcs v p := rfl
        rw [ev]
        refine wX11_count_150 d Q _ _ _ _ _ ⟨fun _ => ?_, fun q => absurd (by decide) q⟩
        rw [mcS_a, nI_clamp (by omega), mcS_v (by omega)]
        have upd : vcs v p ≠ 0 → ((bF v p).2 < vcs v p ∨ (vcs v p = (bF v p).2 ∧ v p < (bF v p).1)) → ∀ σ_93 : HS, σ_93 = up (mcS σ v (bF v p).2) 0 0 69 (nI (vcs v p)) → (vp_in (nI p) 5 ∧ (∀ x_97 : Int32, x_97 = σ_93.1 57 0 p → (∀ x_99 : Int32, x_99 = nI p + 1 → atX11_count_138 d Q σ_93 x_97 x_99))) := by
          rintro z0 z _ rfl
          refine ⟨vp, ?_⟩
          rintro _ rfl _ rfl
          rw [mcS_up, mcS_v (by omega), nI_1]
          rw [bF_yes (z.imp id (fun w => ⟨by omega, w.1, w.2⟩))] at nx
          exact nx
        have skp : ¬ ((bF v p).2 < vcs v p ∨ (0 < vcs v p ∧ vcs v p = (bF v p).2 ∧ v p < (bF v p).1)) → ∀ x_83 : Int32, x_83 = nI p + 1 → atX11_count_138 d Q (mcS σ v (bF v p).2) (bF v p).1 x_83 := by
          rintro z _ rfl
          rw [bF_no z] at nx
          rw [nI_1]
          exact nx
        refine ⟨fun q => skp ?_, fun q => ⟨fun q2 => skp ?_, fun q2 => ⟨fun q3 => upd ?_ ?_, fun q3 => ⟨vp, fun q4 => upd ?_ ?_, fun q4 => skp ?_⟩⟩⟩⟩
        · have := (nI_ltI (by omega) (by omega)).mp q
          omega
        · have := (nI_eq (a := vcs v p) (b := 0) (by omega) (by omega)).mp q2
          omega
        · exact fun z => q2 (by rw [z]; rfl)
        · have z1 := Nat.le_of_not_lt (fun z => q (nI_lt (a := vcs v p) (b := (bF v p).2) z (by omega)))
          have z2 := fun z => q3 ((nI_eq (a := vcs v p) (b := (bF v p).2) (by omega) (by omega)).mpr z)
          exact Or.inl (Nat.lt_of_le_of_ne z1 (fun w => z2 w.symm))
        · exact fun z => q2 (by rw [z]; rfl)
        · exact Or.inr ⟨(nI_eq (by omega) (by omega)).mp q3, q4⟩
        · have z3 := (nI_eq (a := vcs v p) (b := (bF v p).2) (by omega) (by omega)).mp q3
          intro z
          rcases z with z | z
          · omega
          · exact q4 z.2.2
      | succ r ihr =>
        intro q hq
        have vq : vp_in (nI q) 5 := vp_in_nI (by omega) (by omega)
        have nq := ihr (q + 1) (by omega)
        refine wX11_count_150 d Q _ _ _ _ _ ⟨fun z => absurd z (nI_ge (a := q) (b := 5) (by omega) (by omega)), fun _ => ⟨vp, ?_⟩⟩
        rw [nI_clamp (by omega), nI_clamp (by omega), mcS_v (by omega), mcS_v (by omega)]
        refine ⟨fun z => ?_, fun z => ⟨vq, vp, fun z2 => ?_, fun z2 => ?_⟩⟩
        · rintro _ rfl _ rfl
          rw [if_pos (neg.mp z)] at nq ⊢
          rw [Int32.add_zero, nI_1]
          exact nq
        · rintro _ rfl _ rfl
          have z' : ¬ v p = -1 := fun w => z (neg.mpr w)
          rw [if_neg z'] at nq ⊢
          have e : cn5 v (v p) (q + 1) = cn5 v (v p) q := by show cn5 v (v p) q + (if _ then 1 else 0) = _; rw [if_neg z2]; rfl
          rw [e] at nq
          rw [Int32.add_zero, nI_1]
          exact nq
        · rintro _ rfl _ rfl
          have z' : ¬ v p = -1 := fun w => z (neg.mpr w)
          rw [if_neg z'] at nq ⊢
          have e : cn5 v (v p) (q + 1) = cn5 v (v p) q + 1 := by show cn5 v (v p) q + (if _ then 1 else 0) = _; rw [if_pos z2]
          rw [e] at nq
          rw [nI_1, nI_1]
          exact nq
    refine wX11_count_138 d Q _ _ _ ⟨fun q => absurd q (nI_ge (a := p) (b := 5) (by omega) (by omega)), fun _ => ?_⟩
    have := inner 5 0 (by omega)
    have e0 : (if v p = -1 then 0 else cn5 v (v p) 0) = 0 := by split <;> rfl
    rw [e0] at this
    exact this
theorem mscan_loop (d c : Nat) (a0 a1 a2 k : Int32) (σ : HS) (Q : Option AV → HS → Prop) (hc : c ≤ 60) (e : σ.1 0 0 68 = nI c) (hkp : ∀ j, j < c → ∃ p, p < 5 ∧ σ.1 50 0 j = nI p) (ham : ∀ j, j < c → isN (σ.1 54 0 j) 1000000)
    (h : ∀ v, v = vcF (pM σ a0 a1 a2 k) (fun j => σ.1 50 0 j) (fun j => σ.1 54 0 j) c → Q (some (vI (bF v 5).1)) (mcS σ v (bF v 5).2)) :
    ∀ r j : Nat, j + r = c → atX11_count_26 d Q (upB σ 57 0 0 5 (vcF (pM σ a0 a1 a2 k) (fun j => σ.1 50 0 j) (fun j => σ.1 54 0 j) j)) a0 a1 a2 k (nI j) := by
  intro r
  induction r with
  | zero =>
    intro j hj
    have e1 : j = c := by omega
    subst e1
    refine wX11_count_26 d Q _ _ _ _ _ _ ⟨fun _ => ?_, fun q => absurd (by rw [upB_ne (by decide), e]; exact nI_le (Nat.le_refl _) (by omega)) q⟩
    rintro _ rfl _ rfl
    exact mbest_loop d _ σ Q (vcF_rng ham) (h _ rfl) 5 0 (by omega)
  | succ r ih =>
    intro j hj
    have vj : vp_in (nI j) 60 := vp_in_nI (by omega) (by omega)
    have nx := ih (j + 1) (by omega)
    obtain ⟨p, hp, ep⟩ := hkp j (by omega)
    have skip : pM σ a0 a1 a2 k j = false → ∀ y, y = nI j + 1 → atX11_count_26 d Q (upB σ 57 0 0 5 (vcF (pM σ a0 a1 a2 k) (fun j => σ.1 50 0 j) (fun j => σ.1 54 0 j) j)) a0 a1 a2 k y := by
      rintro z _ rfl
      rw [vcF_no z] at nx
      rw [nI_1]
      exact nx
    generalize hV : vcF (pM σ a0 a1 a2 k) (fun j => σ.1 50 0 j) (fun j => σ.1 54 0 j) j = V at skip ⊢
    have rd : ∀ kk, kk ≠ 57 → (upB σ 57 0 0 5 V).1 kk = σ.1 kk := fun kk hk => upB_ne hk
    have put : pM σ a0 a1 a2 k j = true → vp_in (σ.1 50 0 j) 5 ∧ ∀ σ_55 : HS, σ_55 = up (upB σ 57 0 0 5 V) 57 0 (σ.1 50 0 j).toNatClampNeg (σ.1 54 0 j) → (∀ x_56 : Int32, x_56 = nI j + 1 → atX11_count_26 d Q σ_55 a0 a1 a2 k x_56) := by
      intro z
      refine ⟨by rw [ep]; exact vp_in_nI hp (by omega), ?_⟩
      rintro _ rfl _ rfl
      rw [vcF_yes z, hV] at nx
      rw [ep, nI_clamp (by omega), upB0_up (by omega), nI_1]
      rw [ep, vN_nI (by omega)] at nx
      exact nx
    refine wX11_count_26 d Q _ _ _ _ _ _ ?_
    rw [rd 0 (by decide), rd 51 (by decide), rd 52 (by decide), rd 53 (by decide), rd 55 (by decide), rd 56 (by decide), rd 50 (by decide), rd 54 (by decide), nI_clamp (by omega), e]
    refine ⟨fun q => absurd q (nI_ge (by omega) (by omega)), fun _ => ⟨vj, fun q => skip ?_, fun q => ⟨vj, fun q2 => skip ?_, fun q2 => ⟨vj, fun q3 => skip ?_, fun q3 => ⟨vj, fun q4 => skip ?_, fun q4 => ⟨vj, fun q5 => ⟨vj, vj, put ?_⟩, fun q5 => ⟨vj, fun q6 => skip ?_, fun q6 => ⟨vj, vj, put ?_⟩⟩⟩⟩⟩⟩⟩⟩
    · simp [pM, q]
    · simp [pM, q2]
    · simp [pM, q3]
    · simp [pM, q4]
    · simp [pM, q, q2, q3, q4, q5]
    · simp [pM, q5, q6]
    · simp [pM, q, q2, q3, q4, q6]
theorem mcount_ok (d c : Nat) (a0 a1 a2 k : Int32) (σ : HS) (Q : Option AV → HS → Prop) (hc : c ≤ 60) (e : σ.1 0 0 68 = nI c) (hkp : ∀ j, j < c → ∃ p, p < 5 ∧ σ.1 50 0 j = nI p) (ham : ∀ j, j < c → isN (σ.1 54 0 j) 1000000)
    (h : ∀ v, v = vcF (pM σ a0 a1 a2 k) (fun j => σ.1 50 0 j) (fun j => σ.1 54 0 j) c → Q (some (vI (bF v 5).1)) (mcS σ v (bF v 5).2)) : MT d mX11_count [vR 0 0, vI a0, vI a1, vI a2, vI k] σ Q := by
  have fl : ∀ m j : Nat, j + m = 5 → atX11_count_3 d Q (upB σ 57 0 0 j (fun _ => -1)) a0 a1 a2 k (nI j) := by
    intro m
    induction m with
    | zero =>
      intro j hj
      have e : j = 5 := by omega
      subst e
      refine wX11_count_3 d Q _ _ _ _ _ _ ⟨fun _ => mscan_loop d c a0 a1 a2 k σ Q hc (by assumption) hkp ham h c 0 (by omega), fun q => absurd (by decide) q⟩
    | succ m ih =>
      intro j hj
      refine wX11_count_3 d Q _ _ _ _ _ _ ⟨fun q => absurd q (nI_ge (a := j) (b := 5) (by omega) (by omega)), fun _ => ⟨vp_in_nI (by omega) (by omega), ?_⟩⟩
      rintro _ rfl _ rfl
      have := ih (j + 1) (by omega)
      rw [← upB_succ, Nat.zero_add] at this
      rw [nI_clamp (by omega), nI_1]
      exact this
  refine wX11_count d a0 a1 a2 k σ Q ?_
  have := fl 5 0 (by omega)
  rw [upB_0] at this
  exact this
theorem Sim.upB {σ σ2 : HS} {k i b n : Nat} {f : Nat → Int32} (h : Sim σ σ2) (hs : ∀ s, scr k s = true) : Sim σ (upB σ2 k i b n f) := by
  intro k' i' s' h'
  have : ¬ (k' = k ∧ i' = i ∧ b ≤ s' ∧ s' < b + n) := fun z => by rw [z.1, hs] at h'; cases h'
  show (if _ then _ else _) = _
  rw [if_neg this]
  exact h k' i' s' h'
theorem Sim.hrS {σ : HS} {v : Nat → Int32} {b : Int32} {n : Nat} : Sim σ (hrS σ v b n) := Sim.up (Sim.up (Sim.upB Sim.rf (fun _ => rfl)) rfl) rfl
theorem Sim.mcS {σ σ1 : HS} {v : Nat → Int32} {n : Nat} (h : Sim σ σ1) : Sim σ (mcS σ1 v n) := Sim.up (Sim.upB h (fun _ => rfl)) rfl
theorem pM_sim {σ σ1 : HS} (h : Sim σ σ1) (a0 a1 a2 k : Int32) : pM σ1 a0 a1 a2 k = pM σ a0 a1 a2 k := by
  funext j
  unfold pM
  rw [h 51 0 j rfl, h 52 0 j rfl, h 53 0 j rfl, h 55 0 j rfl, h 56 0 j rfl]
theorem bF_m1 : bF (fun _ => -1) 5 = (-1, 0) := by decide
theorem mcount_sim (d c : Nat) (a0 a1 a2 a3 : Int32) (σ σ1 : HS) (Q : Option AV → HS → Prop) (hs : Sim σ σ1) (hc : c ≤ 60) (e : σ.1 0 0 68 = nI c) (hkp : ∀ j, j < c → ∃ p, p < 5 ∧ σ.1 50 0 j = nI p) (ham : ∀ j, j < c → isN (σ.1 54 0 j) 1000000)
    (h : ∀ v, v = vcF (pM σ a0 a1 a2 a3) (fun j => σ.1 50 0 j) (fun j => σ.1 54 0 j) c → Q (some (vI (bF v 5).1)) (mcS σ1 v (bF v 5).2)) : MT d mX11_count [vR 0 0, vI a0, vI a1, vI a2, vI a3] σ1 Q := by
  refine mcount_ok d c a0 a1 a2 a3 σ1 Q hc (by rw [hs 0 0 68 rfl]; exact e) (fun j hj => by rw [hs 50 0 j rfl]; exact hkp j hj) (fun j hj => by rw [hs 54 0 j rfl]; exact ham j hj) (fun v hv => h v ?_)
  rw [hv, pM_sim hs]
  have e1 : (fun j => σ1.1 50 0 j) = fun j => σ.1 50 0 j := funext fun j => hs 50 0 j rfl
  have e2 : (fun j => σ1.1 54 0 j) = fun j => σ.1 54 0 j := funext fun j => hs 54 0 j rfl
  rw [e1, e2]
/-- the two ways to hear agree -/
theorem v_same {σ : HS} {c t k : Nat} (a2 a3 : Int32) (nt : Nat) (hnt : nt ≤ 8) (hk : k < 3) (ht : t < nt)
    (f3 : ∀ j, j < c → (∃ p, p < 5 ∧ σ.1 50 0 j = nI p ∧ σ.1 98 0 j = nI p) ∧ (∃ t k, t < nt ∧ k < 3 ∧ σ.1 51 0 j = nI t ∧ σ.1 52 0 j = nI k ∧ σ.1 99 0 j = nI (3 * t + k)) ∧ σ.1 100 0 j = σ.1 53 0 j ∧ σ.1 101 0 j = σ.1 54 0 j ∧ isN (σ.1 54 0 j) 1000000 ∧ σ.1 102 0 j = σ.1 55 0 j ∧ σ.1 103 0 j = σ.1 56 0 j ∧ (σ.1 56 0 j = -1 ∨ isN (σ.1 56 0 j) 2000)) :
    vcF (pC σ (nI (3 * t + k)) a2 a3) (fun j => σ.1 98 0 j) (fun j => σ.1 101 0 j) c = vcF (pM σ (nI t) (nI k) a2 a3) (fun j => σ.1 50 0 j) (fun j => σ.1 54 0 j) c := by
  refine vcF_cong (fun j hj => ?_)
  obtain ⟨⟨p, hp, p1, p2⟩, ⟨t', k', ht', hk', q1, q2, q3⟩, g3, g4, g5, g6, g7, g8⟩ := f3 j hj
  refine ⟨?_, by rw [p1, p2], g4⟩
  have e1 : decide (σ.1 99 0 j = nI (3 * t + k)) = (decide (σ.1 51 0 j = nI t) && decide (σ.1 52 0 j = nI k)) := by
    rw [q1, q2, q3, ← Bool.decide_and]
    refine decide_eq_decide.mpr ?_
    rw [nI_eq (by omega) (by omega), nI_eq (by omega) (by omega), nI_eq (by omega) (by omega)]
    omega
  have e2 : (decide (σ.1 103 0 j = -1) || decide (a3 < σ.1 103 0 j)) = (decide (σ.1 56 0 j < 0) || decide (¬ σ.1 56 0 j ≤ a3)) := by
    rw [g7, ← Bool.decide_or, ← Bool.decide_or]
    refine decide_eq_decide.mpr ?_
    rw [Int32.not_le]
    rcases g8 with z | ⟨w, hw, z⟩
    · rw [z]
      exact ⟨fun _ => Or.inl (by decide), fun _ => Or.inl rfl⟩
    · have n1 : ¬ σ.1 56 0 j < 0 := by rw [z]; exact nI_pos (by omega)
      have n2 : ¬ σ.1 56 0 j = -1 := fun y => n1 (by rw [y]; decide)
      exact ⟨fun y => Or.inr (y.resolve_left n2), fun y => Or.inr (y.resolve_left n1)⟩
  unfold pC pM
  rw [e1, e2, g3, g6]
theorem v_none {σ : HS} {c : Nat} (a0 a1 a2 a3 : Int32) (h : ∀ j, j < c → ¬ (σ.1 51 0 j = a0 ∧ σ.1 52 0 j = a1)) : vcF (pM σ a0 a1 a2 a3) (fun j => σ.1 50 0 j) (fun j => σ.1 54 0 j) c = fun _ => -1 := by
  refine vcF_none (fun j hj => ?_)
  have := h j hj
  unfold pM
  by_cases z : σ.1 51 0 j = a0
  · have z2 : ¬ σ.1 52 0 j = a1 := fun w => this ⟨z, w⟩
    simp [z2]
  · simp [z]
theorem st_count (a0 a1 a2 a3 : Int32) : Step mX10_count mX11_count [vI a0, vI a1, vI a2, vI a3] := by
  intro σ hI
  have hI0 := hI
  obtain ⟨h1, h2, h3, h4, h5, h6, h7, h8, h9, h10, h11, h12, h13, h14⟩ := hI
  obtain ⟨n, hn, e1, e2, e3⟩ := id h1
  obtain ⟨c, hc, f1, f2, f3⟩ := id h14
  rw [e1, vN_nI (by omega)] at f3
  have c1 : (0 ≤ a0 ∧ a0 ≤ σ.1 2 0 3 - 1) ↔ ∃ t, t < n ∧ a0 = nI t := by rw [e2]; exact tw_iff hn
  have hkp : ∀ j, j < c → ∃ p, p < 5 ∧ σ.1 50 0 j = nI p := fun j hj => by obtain ⟨⟨p, hp, p1, p2⟩, -⟩ := f3 j hj; exact ⟨p, hp, p1⟩
  have ham : ∀ j, j < c → isN (σ.1 54 0 j) 1000000 := fun j hj => (f3 j hj).2.2.2.2.1
  have no : (∀ j, j < c → ¬ (σ.1 51 0 j = a0 ∧ σ.1 52 0 j = a1)) → MT 60 mX11_count [vR 0 0, vI a0, vI a1, vI a2, vI a3] σ (PostS (-1)) := by
    intro z
    refine mcount_sim 60 c a0 a1 a2 a3 σ σ _ Sim.rf hc f1 hkp ham (fun v hv => ?_)
    rw [v_none a0 a1 a2 a3 z] at hv
    subst hv
    rw [bF_m1]
    exact ⟨rfl, (Sim.mcS Sim.rf).inv hI0⟩
  refine wX10_count 60 a0 a1 a2 a3 σ _ (by decide) ⟨fun q => step_of (no (fun j hj z => q (c1.mpr ?_))), fun q => ⟨fun q1 => ?_, fun q1 => step_of (no (fun j hj z => q1 (kd_iff.mpr ?_)))⟩⟩
  · obtain ⟨-, ⟨t', k', ht', hk', w1, w2, w3⟩, -⟩ := f3 j hj
    exact ⟨t', ht', by rw [← z.1]; exact w1⟩
  · obtain ⟨t, ht, rfl⟩ := c1.mp q
    obtain ⟨k, hk, rfl⟩ := kd_iff.mp q1
    have es : nI t * 3 + nI k = nI (3 * t + k) := by rw [show (3 : Int32) = nI 3 from rfl, pk_mul, nI_add, Nat.mul_comm]
    rw [es]
    refine hear_ok 59 c _ a2 a3 σ _ (by decide) hc f2 (fun j hj => by obtain ⟨⟨p, hp, p1, p2⟩, -⟩ := f3 j hj; exact ⟨p, hp, p2⟩) (fun v hv => ⟨rfl, ?_⟩)
    rw [hrS_best]
    refine step_of (mcount_sim 60 c _ _ a2 a3 σ _ _ Sim.hrS hc f1 hkp ham (fun v2 hv2 => ?_))
    rw [v_same a2 a3 n hn hk ht f3, ← hv2] at hv
    subst hv
    exact ⟨rfl, (Sim.mcS Sim.hrS).inv hI0⟩
  · obtain ⟨-, ⟨t', k', ht', hk', w1, w2, w3⟩, -⟩ := f3 j hj
    exact ⟨k', hk', by rw [← z.2]; exact w2⟩
theorem st_agree (a0 a1 a2 a3 : Int32) : Step mX10_agree mX11_agree [vI a0, vI a1, vI a2, vI a3] := by
  intro σ hI
  have hI0 := hI
  obtain ⟨h1, h2, h3, h4, h5, h6, h7, h8, h9, h10, h11, h12, h13, h14⟩ := hI
  obtain ⟨n, hn, e1, e2, e3⟩ := id h1
  obtain ⟨c, hc, f1, f2, f3⟩ := id h14
  rw [e1, vN_nI (by omega)] at f3
  have c1 : (0 ≤ a0 ∧ a0 ≤ σ.1 2 0 3 - 1) ↔ ∃ t, t < n ∧ a0 = nI t := by rw [e2]; exact tw_iff hn
  have hkp : ∀ j, j < c → ∃ p, p < 5 ∧ σ.1 50 0 j = nI p := fun j hj => by obtain ⟨⟨p, hp, p1, p2⟩, -⟩ := f3 j hj; exact ⟨p, hp, p1⟩
  have ham : ∀ j, j < c → isN (σ.1 54 0 j) 1000000 := fun j hj => (f3 j hj).2.2.2.2.1
  have no : (∀ j, j < c → ¬ (σ.1 51 0 j = a0 ∧ σ.1 52 0 j = a1)) → MT 60 mX11_agree [vR 0 0, vI a0, vI a1, vI a2, vI a3] σ (PostS 0) := by
    intro z
    refine wX11_agree 60 _ _ _ _ σ _ (by decide) (mcount_sim 59 c a0 a1 a2 a3 σ σ _ Sim.rf hc f1 hkp ham (fun v hv => ⟨_, rfl, ?_⟩))
    rw [v_none a0 a1 a2 a3 z] at hv
    subst hv
    rw [mcS_a, bF_m1]
    exact ⟨rfl, (Sim.mcS Sim.rf).inv hI0⟩
  refine wX10_agree 60 a0 a1 a2 a3 σ _ (by decide) ⟨fun q => step_of (no (fun j hj z => q (c1.mpr ?_))), fun q => ⟨fun q1 => ?_, fun q1 => step_of (no (fun j hj z => q1 (kd_iff.mpr ?_)))⟩⟩
  · obtain ⟨-, ⟨t', k', ht', hk', w1, w2, w3⟩, -⟩ := f3 j hj
    exact ⟨t', ht', by rw [← z.1]; exact w1⟩
  · obtain ⟨t, ht, rfl⟩ := c1.mp q
    obtain ⟨k, hk, rfl⟩ := kd_iff.mp q1
    have es : nI t * 3 + nI k = nI (3 * t + k) := by rw [show (3 : Int32) = nI 3 from rfl, pk_mul, nI_add, Nat.mul_comm]
    rw [es]
    refine hear_ok 59 c _ a2 a3 σ _ (by decide) hc f2 (fun j hj => by obtain ⟨⟨p, hp, p1, p2⟩, -⟩ := f3 j hj; exact ⟨p, hp, p2⟩) (fun v hv => ⟨rfl, ?_⟩)
    rw [hrS_voices]
    refine step_of (wX11_agree 60 _ _ _ _ _ _ (by decide) (mcount_sim 59 c _ _ a2 a3 σ _ _ Sim.hrS hc f1 hkp ham (fun v2 hv2 => ⟨_, rfl, ?_⟩)))
    rw [v_same a2 a3 n hn hk ht f3, ← hv2] at hv
    subst hv
    rw [mcS_a]
    exact ⟨rfl, (Sim.mcS Sim.hrS).inv hI0⟩
  · obtain ⟨-, ⟨t', k', ht', hk', w1, w2, w3⟩, -⟩ := f3 j hj
    exact ⟨k', hk', by rw [← z.2]; exact w2⟩
