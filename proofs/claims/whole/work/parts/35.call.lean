theorem vN_def (x : Int32) : x.toNatClampNeg = vN x := rfl
theorem pickF_succ_skip {tens given : Nat → Int32} {all hands : Int32} {n : Nat} (h : tens n ≤ 0) : pickF tens given all hands (n + 1) = pickF tens given all hands n := by
  show (if _ then _ else _) = _
  rw [if_pos h]
theorem pickF_succ_first {tens given : Nat → Int32} {all hands : Int32} {n : Nat} (h : ¬ tens n ≤ 0) (h2 : pickF tens given all hands n = -1) : pickF tens given all hands (n + 1) = nI n := by
  show (if _ then _ else (if _ then _ else _)) = _
  rw [if_neg h, if_pos h2]
theorem pickF_succ_keep {tens given : Nat → Int32} {all hands : Int32} {n : Nat} (h : ¬ tens n ≤ 0) (h2 : ¬ pickF tens given all hands n = -1) (h3 : bhF tens given all hands n ≤ bhF tens given all hands (vN (pickF tens given all hands n))) : pickF tens given all hands (n + 1) = pickF tens given all hands n := by
  show (if _ then _ else (if _ then _ else (if _ then _ else _))) = _
  rw [if_neg h, if_neg h2, if_pos h3]
theorem pickF_succ_new {tens given : Nat → Int32} {all hands : Int32} {n : Nat} (h : ¬ tens n ≤ 0) (h2 : ¬ pickF tens given all hands n = -1) (h3 : ¬ bhF tens given all hands n ≤ bhF tens given all hands (vN (pickF tens given all hands n))) : pickF tens given all hands (n + 1) = nI n := by
  show (if _ then _ else (if _ then _ else (if _ then _ else _))) = _
  rw [if_neg h, if_neg h2, if_neg h3]
theorem takeHand_loop (d n : Nat) (all : Int32) (σ : HS) (Q : Option AV → HS → Prop) (hn : n ≤ 8) (e : σ.1 2 0 3 = nI n) (tens given : Nat → Int32) (hands : Int32) (ht : ∀ t, t < 8 → σ.1 3 t 2 = tens t) (hg : ∀ t, t < 8 → σ.1 3 t 3 = given t) (hh : σ.1 2 0 5 = hands)
    (h1 : pickF tens given all hands n = -1 → Q none σ) (h2 : ∀ t, t < 8 → pickF tens given all hands n = nI t → Q none (up σ 3 t 3 (given t + 1))) :
    ∀ m j : Nat, j + m = n → ∀ x3 : Int32, (pickF tens given all hands j ≠ -1 → x3 = bhF tens given all hands (vN (pickF tens given all hands j))) → atX2_takeHand_17 d Q σ all (pickF tens given all hands j) x3 (nI j) := by
  intro m
  induction m with
  | zero =>
    intro j hj x3 hx3
    have e1 : j = n := by omega
    subst e1
    refine wX2_takeHand_17 d Q σ _ _ _ _ ⟨fun _ => ⟨h1, fun q => ?_⟩, fun q => absurd (by rw [e]; exact nI_le (Nat.le_refl _) (by omega)) q⟩
    rcases pickF_rng tens given all hands j with z | ⟨t, ht', z⟩
    · exact absurd z q
    · rw [z, nI_clamp (by omega)]
      refine ⟨vp_in_nI (by omega) (by omega), ?_⟩
      rintro _ rfl
      rw [hg t (by omega)]
      exact h2 t (by omega) z
  | succ m ih =>
    intro j hj x3 hx3
    have vj : vp_in (nI j) 8 := vp_in_nI (by omega) (by omega)
    refine wX2_takeHand_17 d Q σ _ _ _ _ ⟨fun q => ?_, fun _ => ⟨vj, ?_⟩⟩
    · rw [e] at q
      exact absurd q (nI_ge (by omega) (by omega))
    · rintro _ rfl
      refine ⟨vj, ?_⟩
      rintro _ rfl
      rw [nI_clamp (by omega), ht j (by omega), hg j (by omega), hh]
      have eb : tens j * hands - all * given j = bhF tens given all hands j := rfl
      rw [eb]
      refine ⟨fun q => ?_, fun q => ⟨fun q2 => ?_, fun q2 => ⟨fun q3 => ?_, fun q3 => ?_⟩⟩⟩
      · rintro _ rfl
        have := ih (j + 1) (by omega) x3 (by rw [pickF_succ_skip q]; exact hx3)
        rw [pickF_succ_skip q] at this
        rw [nI_1]
        exact this
      · rintro _ rfl
        have ep := pickF_succ_first (hands := hands) (given := given) (all := all) q q2
        have := ih (j + 1) (by omega) (bhF tens given all hands j) (by rw [ep, vN_nI (by omega)]; exact fun _ => rfl)
        rw [ep] at this
        rw [nI_1]
        exact this
      · rintro _ rfl
        rw [hx3 q2] at q3
        have ep := pickF_succ_keep q q2 q3
        have := ih (j + 1) (by omega) x3 (by rw [ep]; exact hx3)
        rw [ep] at this
        rw [nI_1]
        exact this
      · rintro _ rfl
        rw [hx3 q2] at q3
        have ep := pickF_succ_new q q2 q3
        have := ih (j + 1) (by omega) (bhF tens given all hands j) (by rw [ep, vN_nI (by omega)]; exact fun _ => rfl)
        rw [ep] at this
        rw [nI_1]
        exact this
/-- what hands the towns gave behind one hand more -/
def stepG (tens : Nat → Int32) (all hands : Int32) (n : Nat) (g : Nat → Int32) : Nat → Int32 := fun i => if i = vN (pickF tens g all hands n) then g i + 1 else g i
def itG (tens : Nat → Int32) (all x : Int32) (n : Nat) (g : Nat → Int32) : Nat → Nat → Int32
  | 0 => g
  | m + 1 => stepG tens all (x + nI (m + 1)) n (itG tens all x n g m)
theorem hC_cong {σ : HS} {x : Int32} {g g' : Nat → Int32} (h : ∀ t, t < 8 → g t = g' t) : hC σ x g = hC σ x g' := by
  refine hs_ext (fun k i s => ?_) rfl
  simp only [hC]
  split
  · rfl
  · split
    · rename_i e
      exact h i e.2.1
    · rfl
theorem hM_cong {σ : HS} {x : Int32} {g g' : Nat → Int32} (h : ∀ t, t < 8 → g t = g' t) : hM σ x g = hM σ x g' := by
  refine hs_ext (fun k i s => ?_) rfl
  simp only [hM]
  split
  · rfl
  · split
    · rename_i e
      exact h s e.2.2
    · rfl
theorem takeHand_ok (d n : Nat) (all x : Int32) (g tens : Nat → Int32) (σ : HS) (Q : Option AV → HS → Prop) (hn : n ≤ 8) (e : σ.1 2 0 3 = nI n) (ht : ∀ t, t < 8 → σ.1 3 t 2 = tens t) (hsome : ∃ t, t < n ∧ ¬ tens t ≤ 0) (h : Q none (hC σ (x + 1) (stepG tens all (x + 1) n g))) : MT d mX2_takeHand [vR 2 0, vI all] (hC σ x g) Q := by
  have hp := pickF_some (given := g) (all := all) (hands := x + 1) hsome (by omega)
  refine wX2_takeHand d all _ Q ?_
  rintro _ rfl _ rfl
  rw [hC_hands, hC_up1]
  refine takeHand_loop d n all (hC σ (x + 1) g) Q hn (by rw [hC_land (by decide)]; exact e) tens g (x + 1) (fun t h8 => by rw [hC_town (by decide)]; exact ht t h8) (fun t h8 => hC_given h8) hC_hands (fun z => absurd z hp) (fun t h8 z => ?_) n 0 (by omega) 0 (fun z => absurd rfl z)
  rw [hC_up2 h8]
  refine (congrArg (Q none) (hC_cong (fun i _ => ?_))).mp h
  unfold stepG
  rw [z, vN_nI (by omega)]
  by_cases e2 : i = t
  · rw [if_pos e2, if_pos e2, e2]
  · rw [if_neg e2, if_neg e2]
theorem ccall_loop (d n a : Nat) (all x : Int32) (g tens : Nat → Int32) (σ : HS) (Q : Option AV → HS → Prop) (hd : 1 ≤ d) (hn : n ≤ 8) (ha : a ≤ 1000) (e : σ.1 2 0 3 = nI n) (ht : ∀ t, t < 8 → σ.1 3 t 2 = tens t) (hsome : ∃ t, t < n ∧ ¬ tens t ≤ 0) (h : Q (some (vI (x + nI a))) (hC σ (x + nI a) (itG tens all x n g a))) :
    ∀ m j : Nat, j + m = a → atX10_call_43 d Q (hC σ (x + nI j) (itG tens all x n g j)) (nI a) all (nI j) := by
  intro m
  induction m with
  | zero =>
    intro j hj
    have e1 : j = a := by omega
    subst e1
    refine wX10_call_43 d Q _ _ _ _ hd ⟨fun _ => ?_, fun q => absurd (nI_le (Nat.le_refl _) (by omega)) q⟩
    rw [hC_hands]
    exact h
  | succ m ih =>
    intro j hj
    refine wX10_call_43 d Q _ _ _ _ hd ⟨fun q => absurd q (nI_ge (by omega) (by omega)), fun _ => ?_⟩
    refine takeHand_ok (d - 1) n all (x + nI j) _ tens σ _ hn e ht hsome ⟨rfl, ?_⟩
    rintro _ rfl
    rw [nI_1]
    have e2 : x + nI j + 1 = x + nI (j + 1) := by rw [Int32.add_assoc, nI_1]
    rw [e2]
    exact ih (j + 1) (by omega)
theorem mpick_loop (d n : Nat) (a0 all x3 : Int32) (σ : HS) (Q : Option AV → HS → Prop) (hd : 1 ≤ d) (hn : n ≤ 8) (e : σ.1 0 0 7 = nI n) (tens given : Nat → Int32) (hands : Int32) (ht : ∀ t, t < 8 → σ.1 14 0 t = tens t) (hg : ∀ t, t < 8 → σ.1 49 0 t = given t) (hh : σ.1 0 0 59 = hands) (hp : pickF tens given all hands n ≠ -1)
    (h2 : ∀ t, t < 8 → pickF tens given all hands n = nI t → atX11_call_58 d Q (up σ 49 0 t (given t + 1)) a0 all (x3 + 1)) :
    ∀ m j : Nat, j + m = n → atX11_call_79 d Q σ a0 all x3 (pickF tens given all hands j) (nI j) := by
  intro m
  induction m with
  | zero =>
    intro j hj
    have e1 : j = n := by omega
    subst e1
    refine wX11_call_79 d Q σ _ _ _ _ _ hd ⟨fun _ => ?_, fun q => absurd (by rw [e]; exact nI_le (Nat.le_refl _) (by omega)) q⟩
    rcases pickF_rng tens given all hands j with z | ⟨t, ht', z⟩
    · exact absurd z hp
    · rw [z, nI_clamp (by omega)]
      have vt : vp_in (nI t) 8 := vp_in_nI (by omega) (by omega)
      refine ⟨vt, vt, ?_⟩
      rintro _ rfl _ rfl
      rw [hg t (by omega)]
      exact h2 t (by omega) z
  | succ m ih =>
    intro j hj
    have vj : vp_in (nI j) 8 := vp_in_nI (by omega) (by omega)
    refine wX11_call_79 d Q σ _ _ _ _ _ hd ⟨fun q => ?_, fun _ => ⟨vj, fun q => ?_, fun q => ⟨fun q2 => ?_, fun q2 => ?_⟩⟩⟩
    · rw [e] at q
      exact absurd q (nI_ge (by omega) (by omega))
    · rintro _ rfl
      rw [nI_clamp (by omega), ht j (by omega)] at q
      have := ih (j + 1) (by omega)
      rw [pickF_succ_skip q] at this
      rw [nI_1]
      exact this
    · rintro _ rfl
      rw [nI_clamp (by omega), ht j (by omega)] at q
      have z : pickF tens given all hands j = -1 := by
        rcases pickF_rng tens given all hands j with z | ⟨t, ht', z⟩
        · exact z
        · rw [z] at q2; exact absurd q2 (nI_pos (by omega))
      have := ih (j + 1) (by omega)
      rw [pickF_succ_first q z] at this
      rw [nI_1]
      exact this
    · rw [nI_clamp (by omega), ht j (by omega)] at q
      rcases pickF_rng tens given all hands j with z | ⟨t, ht', z⟩
      · rw [z] at q2; exact absurd (by decide) q2
      · have z2 : ¬ pickF tens given all hands j = -1 := by
          rw [z]
          intro w
          rw [z, w] at q2
          exact q2 (by decide)
        have vt : vp_in (nI t) 8 := vp_in_nI (by omega) (by omega)
        rw [z]
        refine wX11_lacks (d - 1) _ _ σ _ ⟨vj, vj, _, rfl, wX11_lacks (d - 1) _ _ σ _ ⟨vt, vt, _, rfl, fun q3 => ?_, fun q3 => ?_⟩⟩
        · rintro _ rfl
          rw [nI_clamp (by omega), nI_clamp (by omega), ht j (by omega), hg j (by omega), ht t (by omega), hg t (by omega), hh] at q3
          have := ih (j + 1) (by omega)
          rw [pickF_succ_keep q z2 (by rw [z, vN_nI (by omega)]; exact q3), z] at this
          rw [nI_1]
          exact this
        · rintro _ rfl
          rw [nI_clamp (by omega), nI_clamp (by omega), ht j (by omega), hg j (by omega), ht t (by omega), hg t (by omega), hh] at q3
          have := ih (j + 1) (by omega)
          rw [pickF_succ_new q z2 (by rw [z, vN_nI (by omega)]; exact q3)] at this
          rw [nI_1]
          exact this
theorem mcall_loop (d n a : Nat) (all x : Int32) (g tens : Nat → Int32) (σ : HS) (Q : Option AV → HS → Prop) (hd : 1 ≤ d) (hn : n ≤ 8) (ha : a ≤ 1000) (e : σ.1 0 0 7 = nI n) (ht : ∀ t, t < 8 → σ.1 14 0 t = tens t) (hsome : ∃ t, t < n ∧ ¬ tens t ≤ 0) (h : Q (some (vI (x + nI a))) (hM σ (x + nI a) (itG tens all x n g a))) :
    ∀ m j : Nat, j + m = a → atX11_call_58 d Q (hM σ (x + nI j) (itG tens all x n g j)) (nI a) all (nI j) := by
  intro m
  induction m with
  | zero =>
    intro j hj
    have e1 : j = a := by omega
    subst e1
    refine wX11_call_58 d Q _ _ _ _ ⟨fun _ => ?_, fun q => absurd (nI_le (Nat.le_refl _) (by omega)) q⟩
    rw [hM_hands]
    exact h
  | succ m ih =>
    intro j hj
    refine wX11_call_58 d Q _ _ _ _ ⟨fun q => absurd q (nI_ge (by omega) (by omega)), fun _ => ?_⟩
    rintro _ rfl _ rfl
    have e2 : x + nI j + 1 = x + nI (j + 1) := by rw [Int32.add_assoc, nI_1]
    rw [hM_hands, hM_up1, e2]
    have hp := pickF_some (given := itG tens all x n g j) (all := all) (hands := x + nI (j + 1)) hsome (by omega)
    refine mpick_loop d n (nI a) all (nI j) (hM σ (x + nI (j + 1)) (itG tens all x n g j)) Q hd hn (by rw [hM_m (by decide)]; exact e) tens (itG tens all x n g j) (x + nI (j + 1)) (fun t h8 => by rw [hM_ne (by decide) (by decide)]; exact ht t h8) (fun t h8 => hM_given h8) hM_hands hp (fun t h8 z => ?_) n 0 (by omega)
    rw [hM_up2 h8, nI_1]
    have := ih (j + 1) (by omega)
    refine (congrArg (fun σ => atX11_call_58 d Q σ (nI a) all (nI (j + 1))) (hM_cong (fun i _ => ?_))).mp this
    show stepG tens all (x + nI (j + 1)) n (itG tens all x n g j) i = _
    unfold stepG
    rw [z, vN_nI (by omega)]
    by_cases e2 : i = t
    · rw [if_pos e2, if_pos e2, e2]
    · rw [if_neg e2, if_neg e2]
theorem mall_loop (d n : Nat) (a0 : Int32) (σ : HS) (Q : Option AV → HS → Prop) (hn : n ≤ 8) (e : σ.1 0 0 7 = nI n) (h : (a0 < 1 → Q (some (vI (-1))) σ) ∧ (¬ a0 < 1 → ((1000 < a0 → Q (some (vI (-1))) σ) ∧ (¬ 1000 < a0 → ((s32 (fun t => σ.1 14 0 t) n = 0 → Q (some (vI (-1))) σ) ∧ (¬ s32 (fun t => σ.1 14 0 t) n = 0 → ((σ.1 0 0 59 + a0 ≤ 100000 → atX11_call_58 d Q σ a0 (s32 (fun t => σ.1 14 0 t) n) 0) ∧ (¬ σ.1 0 0 59 + a0 ≤ 100000 → Q (some (vI (-1))) σ)))))))) : ∀ m j : Nat, j + m = n → atX11_call_4 d Q σ a0 (s32 (fun t => σ.1 14 0 t) j) (nI j) := by
  intro m
  induction m with
  | zero =>
    intro j hj
    have e1 : j = n := by omega
    subst e1
    exact wX11_call_4 d Q σ _ _ _ ⟨fun _ => h, fun q => absurd (by rw [e]; exact nI_le (Nat.le_refl _) (by omega)) q⟩
  | succ m ih =>
    intro j hj
    refine wX11_call_4 d Q σ _ _ _ ⟨fun q => ?_, fun _ => ⟨vp_in_nI (by omega) (by omega), ?_⟩⟩
    · rw [e] at q
      exact absurd q (nI_ge (by omega) (by omega))
    · rintro _ rfl _ rfl
      rw [nI_clamp (by omega), nI_1]
      exact ih (j + 1) (by omega)
theorem st_call (a0 : Int32) : Step mX10_call mX11_call [vI a0] := by
  intro σ hI
  have hI0 := hI
  obtain ⟨h1, h2, h3, h4, h5, h6, h7, h8, h9, h10, h11, h12, h13, h14⟩ := hI
  obtain ⟨n, hn, e1, e2, e3⟩ := id h1
  obtain ⟨g1, g2, g3⟩ := id h13
  have hno : PostS (-1) (some (vI (-1))) σ := ⟨rfl, hI0⟩
  have eall : s32 (fun t => σ.1 3 t 2) n = s32 (fun t => σ.1 14 0 t) n := s32_cong (fun t ht => (h3 t (by omega)).2.2.2.2.2)
  have mm : ((a0 < 1 → PostS (-1) (some (vI (-1))) σ) ∧ (¬ a0 < 1 → ((1000 < a0 → PostS (-1) (some (vI (-1))) σ) ∧ (¬ 1000 < a0 → ((s32 (fun t => σ.1 14 0 t) n = 0 → PostS (-1) (some (vI (-1))) σ) ∧ (¬ s32 (fun t => σ.1 14 0 t) n = 0 → ((σ.1 0 0 59 + a0 ≤ 100000 → atX11_call_58 60 (PostS (-1)) σ a0 (s32 (fun t => σ.1 14 0 t) n) 0) ∧ (¬ σ.1 0 0 59 + a0 ≤ 100000 → PostS (-1) (some (vI (-1))) σ)))))))) → MT 60 mX11_call [vR 0 0, vI a0] σ (PostS (-1)) := fun z => wX11_call 60 a0 σ _ (mall_loop 60 n a0 σ _ hn e1 z n 0 (by omega))
  refine wX10_call 60 a0 σ _ (by decide) ⟨fun q => step_of (mm ⟨fun _ => hno, fun q1 => ⟨fun _ => hno, fun q2 => absurd ⟨Int32.not_lt.mp q1, Int32.not_lt.mp q2⟩ q⟩⟩), fun q => ⟨fun q1 => ?_, fun q1 => step_of (mm ⟨fun _ => hno, fun _ => ⟨fun _ => hno, fun _ => ⟨fun _ => hno, fun _ => ⟨fun q5 => absurd (by rw [g1]; exact q5) q1, fun _ => hno⟩⟩⟩⟩)⟩⟩
  refine wX2_allTens 59 σ _ (allTens_loop 59 n σ _ hn e2 ⟨_, rfl, fun q2 => ?_, fun q2 => step_of (mm ⟨fun _ => hno, fun _ => ⟨fun _ => hno, fun _ => ⟨fun _ => hno, fun q5 => absurd (by rw [← eall]; exact q2) q5⟩⟩⟩)⟩ n 0 (by omega))
  obtain ⟨a, ha1, ha2, rfl⟩ := (rg_iff (a := 1) (b := 1000) (by omega) (by omega)).mp q
  rw [eall] at q2 ⊢
  generalize hall : s32 (fun t => σ.1 14 0 t) n = all at q2
  have hsome : ∃ t, t < n ∧ ¬ σ.1 14 0 t ≤ 0 := by
    refine Classical.byContradiction fun hc => q2 ?_
    rw [← hall]
    refine s32_zero (fun t ht => ?_)
    have : σ.1 14 0 t ≤ 0 := Classical.byContradiction fun z => hc ⟨t, ht, z⟩
    obtain ⟨w, hw, ew⟩ := (h3 t (by omega)).2.2.1
    rw [ew] at this ⊢
    have := (nI_leI (a := w) (b := 0) (by omega) (by omega)).mp this
    rw [Nat.le_zero.mp this]
    rfl
  have cl := ccall_loop 60 n a all (σ.1 0 0 59) (fun t => σ.1 49 0 t) (fun t => σ.1 14 0 t) σ (fun r σ1 => ∃ x, r = some (vI x) ∧ MT 60 mX11_call [vR 0 0, vI (nI a)] σ1 (fun r2 σ2 => r2 = some (vI x) ∧ Inv σ2)) (by decide) hn ha2 e2 (fun t ht => (h3 t ht).2.2.2.2.2) hsome ?_ a 0 (by omega)
  · have e0 : σ.1 0 0 59 + nI 0 = σ.1 2 0 5 := by rw [nI_0, g1]; exact Int32.add_zero _
    rw [e0] at cl
    have hs : hC σ (σ.1 2 0 5) (fun t => σ.1 49 0 t) = σ := (hC_cong (fun t ht => (g3 t ht).symm)).trans (hC_self σ)
    show atX10_call_43 60 _ σ (nI a) all 0
    have : itG (fun t => σ.1 14 0 t) all (σ.1 0 0 59) n (fun t => σ.1 49 0 t) 0 = fun t => σ.1 49 0 t := rfl
    rw [this, hs] at cl
    exact cl
  · refine step_of (wX11_call 60 _ _ _ ?_)
    generalize hG : itG (fun t => σ.1 14 0 t) all (σ.1 0 0 59) n (fun t => σ.1 49 0 t) a = G
    generalize hσ1 : hC σ (σ.1 0 0 59 + nI a) G = σ1
    have k1 : ∀ k, k ≠ 2 → k ≠ 3 → σ1.1 k = σ.1 k := fun k z1 z2 => by rw [← hσ1]; exact hC_ne z1 z2
    have emt : s32 (fun t => σ1.1 14 0 t) n = all := by rw [k1 14 (by decide) (by decide)]; exact hall
    refine mall_loop 60 n _ σ1 _ hn (by rw [k1 0 (by decide) (by decide)]; exact e1) ⟨fun z => absurd z (nI_nlt (a := a) (b := 1) (by omega) (by omega)), fun _ => ⟨fun z => absurd z (nI_nlt (a := 1000) (b := a) (by omega) (by omega)), fun _ => ⟨fun z => absurd (by rw [← emt]; exact z) q2, fun _ => ⟨fun _ => ?_, fun z => absurd (by rw [k1 0 (by decide) (by decide), ← g1]; exact q1) z⟩⟩⟩⟩ n 0 (by omega)
    rw [emt]
    have cl2 := mcall_loop 60 n a all (σ.1 0 0 59) (fun t => σ.1 49 0 t) (fun t => σ.1 14 0 t) σ1 (PostS (σ.1 0 0 59 + nI a)) (by decide) hn ha2 (by rw [k1 0 (by decide) (by decide)]; exact e1) (fun t ht => by rw [k1 14 (by decide) (by decide)]) hsome ?_ a 0 (by omega)
    · have e0 : σ.1 0 0 59 + nI 0 = σ1.1 0 0 59 := by rw [nI_0, Int32.add_zero, k1 0 (by decide) (by decide)]
      rw [e0] at cl2
      have hs := hM_self σ1
      rw [k1 49 (by decide) (by decide)] at hs
      show atX11_call_58 60 _ σ1 (nI a) all 0
      have : itG (fun t => σ.1 14 0 t) all (σ.1 0 0 59) n (fun t => σ.1 49 0 t) 0 = fun t => σ.1 49 0 t := rfl
      rw [this, hs] at cl2
      exact cl2
    · rw [hG]
      refine ⟨rfl, ?_⟩
      rw [← hσ1]
      refine ⟨by simpa [I1, hM_ne, hM_m, hC_ne, hC_land, hC_town] using h1, by simpa [I2, hM_ne, hM_m, hC_ne, hC_land, hC_town] using h2, by simpa [I3, hM_ne, hM_m, hC_ne, hC_land, hC_town] using h3, by simpa [I4, hM_ne, hM_m, hC_ne, hC_land, hC_town] using h4, by simpa [I5, hM_ne, hM_m, hC_ne, hC_land, hC_town] using h5, by simpa [I6, hM_ne, hM_m, hC_ne, hC_land, hC_town] using h6, by simpa [I7, hM_ne, hM_m, hC_ne, hC_land, hC_town] using h7, by simpa [I8, hM_ne, hM_m, hC_ne, hC_land, hC_town] using h8, by simpa [I9, hM_ne, hM_m, hC_ne, hC_land, hC_town] using h9, by simpa [I10, hM_ne, hM_m, hC_ne, hC_land, hC_town] using h10, by simpa [I11, hM_ne, hM_m, hC_ne, hC_land, hC_town] using h11, by simpa [I12, hM_ne, hM_m, hC_ne, hC_land, hC_town] using h12, ?_, by simpa [I14, hM_ne, hM_m, hC_ne, hC_land, hC_town] using h14⟩
      refine ⟨?_, ?_, fun t ht => ?_⟩
      · rw [hM_ne (by decide) (by decide), hC_hands, hM_hands]
      · rw [hM_hands]
        obtain ⟨w, hw, ew⟩ := g2
        rw [g1, ew, nI_add] at q1
        rw [ew, nI_add]
        exact ⟨w + a, (nI_leI (a := w + a) (b := 100000) (by omega) (by omega)).mp q1, rfl⟩
      · rw [hM_ne (by decide) (by decide), hC_given ht, hM_given ht]
