def s32 (f : Nat → Int32) : Nat → Int32
  | 0 => 0
  | n + 1 => s32 f n + f n
theorem s32_cong {f g : Nat → Int32} : ∀ {n : Nat}, (∀ k, k < n → f k = g k) → s32 f n = s32 g n
  | 0, _ => rfl
  | n + 1, h => by
    show s32 f n + f n = s32 g n + g n
    rw [s32_cong (fun k hk => h k (by omega)), h n (by omega)]
theorem s32_zero {f : Nat → Int32} : ∀ {n : Nat}, (∀ k, k < n → f k = 0) → s32 f n = 0
  | 0, _ => rfl
  | n + 1, h => by
    show s32 f n + f n = 0
    rw [s32_zero (fun k hk => h k (by omega)), h n (by omega)]
    rfl
theorem allMeasures_loop (d w : Nat) (σ : HS) (Q : Option AV → HS → Prop) (hw : w ≤ 60) (e : σ.1 5 0 5 = nI w) (h : Q (some (vI (s32 (fun j => σ.1 69 0 j) w))) σ) : ∀ m j : Nat, j + m = w → atX0_allMeasures_4 d Q σ (s32 (fun j => σ.1 69 0 j) j) (nI j) := by
  intro m
  induction m with
  | zero =>
    intro j hj
    have e1 : j = w := by omega
    subst e1
    exact wX0_allMeasures_4 d Q σ _ _ ⟨fun _ => h, fun q => absurd (by rw [e]; exact nI_le (Nat.le_refl _) (by omega)) q⟩
  | succ m ih =>
    intro j hj
    refine wX0_allMeasures_4 d Q σ _ _ ⟨fun q => ?_, fun _ => ⟨vp_in_nI (by omega) (by omega), ?_⟩⟩
    · rw [e] at q
      exact absurd q (nI_ge (by omega) (by omega))
    · rintro _ rfl _ rfl
      rw [nI_clamp (by omega), nI_1]
      exact ih (j + 1) (by omega)
theorem allMeasures_ok (d w : Nat) (σ : HS) (Q : Option AV → HS → Prop) (hw : w ≤ 60) (e : σ.1 5 0 5 = nI w) (h : Q (some (vI (s32 (fun j => σ.1 69 0 j) w))) σ) : MT d mX0_allMeasures [vR 5 0] σ Q := by
  refine wX0_allMeasures d σ Q ?_
  exact allMeasures_loop d w σ Q hw e h w 0 (by omega)
theorem msum_loop (d w : Nat) (a0 : Int32) (σ : HS) (Q : Option AV → HS → Prop) (hw : w ≤ 60) (e : σ.1 0 0 43 = nI w) (h3 : a0 = 3 → Q (some (vI (s32 (fun j => σ.1 36 0 j) w))) σ) (h : ¬ a0 = 3 → vp_in a0 6 ∧ Q (some (vI (σ.1 18 0 a0.toNatClampNeg))) σ) : ∀ m j : Nat, j + m = w → atX11_sum_25 d Q σ a0 (s32 (fun j => σ.1 36 0 j) j) (nI j) := by
  intro m
  induction m with
  | zero =>
    intro j hj
    have e1 : j = w := by omega
    subst e1
    exact wX11_sum_25 d Q σ _ _ _ ⟨fun _ => ⟨h, h3⟩, fun q => absurd (by rw [e]; exact nI_le (Nat.le_refl _) (by omega)) q⟩
  | succ m ih =>
    intro j hj
    refine wX11_sum_25 d Q σ _ _ _ ⟨fun q => ?_, fun _ => ⟨vp_in_nI (by omega) (by omega), ?_⟩⟩
    · rw [e] at q
      exact absurd q (nI_ge (by omega) (by omega))
    · rintro _ rfl _ rfl
      rw [nI_clamp (by omega), nI_1]
      exact ih (j + 1) (by omega)
theorem st_sum (a0 : Int32) : Step mX10_sum mX11_sum [vI a0] := by
  intro σ hI
  have hI0 := hI
  obtain ⟨h1, h2, h3, h4, h5, h6, h7, h8, h9, h10, h11, h12, h13, h14⟩ := hI
  obtain ⟨w, hw, w1, w2, w3⟩ := id h8
  obtain ⟨g1, g2, g3, g4⟩ := id h7
  have lp : ∀ (n : Nat) (x : Int32), n ≤ 5 → n ≠ 4 → (n = 3 → x = s32 (fun j => σ.1 36 0 j) w) → (n ≠ 3 → x = σ.1 18 0 n) → MT 60 mX11_sum [vR 0 0, vI (nI n)] σ (PostS x) := by
    intro n x hn h4 hx3 hx
    refine wX11_sum 60 _ σ _ ⟨fun q => absurd q (nI_pos (by omega)), fun _ => ⟨fun _ => ⟨fun _ => ?_, fun q => absurd ((nI_eq (a := n) (b := 4) (by omega) (by omega)).mp q) h4⟩, fun q => absurd (nI_le (a := n) (b := 5) (by omega) (by omega)) q⟩⟩
    refine msum_loop 60 w _ σ _ hw w1 (fun q => ⟨?_, hI0⟩) (fun q => ⟨vp_in_nI (by omega) (by omega), ?_, hI0⟩) w 0 (by omega)
    · rw [hx3 ((nI_eq (a := n) (b := 3) (by omega) (by omega)).mp q)]
    · rw [nI_clamp (by omega), hx (fun z => q (by rw [z]; rfl))]
  refine wX10_sum 60 a0 σ _ (by decide) ⟨?_, ?_, ?_, ?_, ?_, ?_, fun q => step_of ?_⟩
  · rintro rfl
    exact step_of (lp 0 _ (by omega) (by omega) (fun z => absurd z (by omega)) (fun _ => g1))
  · rintro rfl
    exact step_of (lp 1 _ (by omega) (by omega) (fun z => absurd z (by omega)) (fun _ => g2))
  · rintro rfl
    exact step_of (lp 2 _ (by omega) (by omega) (fun z => absurd z (by omega)) (fun _ => g3))
  · rintro rfl
    refine allMeasures_ok 59 w σ _ hw w2 ⟨_, rfl, step_of (lp 3 _ (by omega) (by omega) (fun _ => ?_) (fun z => absurd rfl z))⟩
    exact s32_cong (fun j hj => (w3 j hj).2.2.2.1)
  · rintro rfl
    refine step_of (wX11_sum 60 4 σ _ ⟨fun q => absurd q (by decide), fun _ => ⟨fun _ => ⟨fun q => absurd rfl q, fun _ => ⟨by rw [w1, w2], hI0⟩⟩, fun q => absurd (by decide) q⟩⟩)
  · rintro rfl
    exact step_of (lp 5 _ (by omega) (by omega) (fun z => absurd z (by omega)) (fun _ => g4))
  · refine wX11_sum 60 a0 σ _ ⟨fun _ => ⟨rfl, hI0⟩, fun q1 => ⟨fun q2 => ?_, fun _ => ⟨rfl, hI0⟩⟩⟩
    exfalso
    obtain ⟨t, -, ht, rfl⟩ := (rg_iff (a := 0) (b := 5) (by omega) (by omega)).mp ⟨Int32.not_lt.mp q1, q2⟩
    rcases (show t = 0 ∨ t = 1 ∨ t = 2 ∨ t = 3 ∨ t = 4 ∨ t = 5 by omega) with rfl | rfl | rfl | rfl | rfl | rfl
    · exact q.1 rfl
    · exact q.2.1 rfl
    · exact q.2.2.1 rfl
    · exact q.2.2.2.1 rfl
    · exact q.2.2.2.2.1 rfl
    · exact q.2.2.2.2.2 rfl
/-! labour -/
def bhF (tens given : Nat → Int32) (all hands : Int32) (t : Nat) : Int32 := tens t * hands - all * given t
def pickF (tens given : Nat → Int32) (all hands : Int32) : Nat → Int32
  | 0 => -1
  | n + 1 => if tens n ≤ 0 then pickF tens given all hands n else if pickF tens given all hands n = -1 then nI n else if bhF tens given all hands n ≤ bhF tens given all hands (vN (pickF tens given all hands n)) then pickF tens given all hands n else nI n
theorem pickF_rng (tens given : Nat → Int32) (all hands : Int32) : ∀ n, pickF tens given all hands n = -1 ∨ ∃ t, t < n ∧ pickF tens given all hands n = nI t
  | 0 => Or.inl rfl
  | n + 1 => by
    have ih := pickF_rng tens given all hands n
    have ih2 : pickF tens given all hands n = -1 ∨ ∃ t, t < n + 1 ∧ pickF tens given all hands n = nI t := ih.imp id (fun ⟨t, h1, h2⟩ => ⟨t, by omega, h2⟩)
    unfold pickF
    split
    · exact ih2
    · split
      · exact Or.inr ⟨n, by omega, rfl⟩
      · split
        · exact ih2
        · exact Or.inr ⟨n, by omega, rfl⟩
theorem pickF_some {tens given : Nat → Int32} {all hands : Int32} : ∀ {n : Nat}, (∃ t, t < n ∧ ¬ tens t ≤ 0) → n ≤ 100 → pickF tens given all hands n ≠ -1
  | 0, ⟨t, h, _⟩, _ => absurd h (Nat.not_lt_zero t)
  | n + 1, ⟨t, h, h2⟩, hn => by
    have hne : (nI n : Int32) ≠ -1 := fun e => by
      have : (0 : Int32) ≤ nI n := nI_pos' (by omega)
      rw [e] at this
      exact absurd this (by decide)
    unfold pickF
    split
    · rename_i h3
      have : t ≠ n := fun e => h2 (by rw [e]; exact h3)
      exact pickF_some ⟨t, by omega, h2⟩ (by omega)
    · split
      · exact hne
      · rename_i h4
        split
        · exact h4
        · exact hne
theorem allTens_loop (d n : Nat) (σ : HS) (Q : Option AV → HS → Prop) (hn : n ≤ 8) (e : σ.1 2 0 3 = nI n) (h : Q (some (vI (s32 (fun t => σ.1 3 t 2) n))) σ) : ∀ m j : Nat, j + m = n → atX2_allTens_4 d Q σ (s32 (fun t => σ.1 3 t 2) j) (nI j) := by
  intro m
  induction m with
  | zero =>
    intro j hj
    have e1 : j = n := by omega
    subst e1
    exact wX2_allTens_4 d Q σ _ _ ⟨fun _ => h, fun q => absurd (by rw [e]; exact nI_le (Nat.le_refl _) (by omega)) q⟩
  | succ m ih =>
    intro j hj
    refine wX2_allTens_4 d Q σ _ _ ⟨fun q => ?_, fun _ => ⟨vp_in_nI (by omega) (by omega), ?_⟩⟩
    · rw [e] at q
      exact absurd q (nI_ge (by omega) (by omega))
    · rintro _ rfl _ rfl
      rw [nI_clamp (by omega), nI_1]
      exact ih (j + 1) (by omega)
/-- the class's labour: hands called, hands given -/
def hC (σ : HS) (x : Int32) (g : Nat → Int32) : HS := (fun k i s => if k = 2 ∧ i = 0 ∧ s = 5 then x else if k = 3 ∧ i < 8 ∧ s = 3 then g i else σ.1 k i s, σ.2)
def hM (σ : HS) (x : Int32) (g : Nat → Int32) : HS := (fun k i s => if k = 0 ∧ i = 0 ∧ s = 59 then x else if k = 49 ∧ i = 0 ∧ s < 8 then g s else σ.1 k i s, σ.2)
theorem hC_ne {σ : HS} {x : Int32} {g : Nat → Int32} {k : Nat} (h1 : k ≠ 2) (h2 : k ≠ 3) : (hC σ x g).1 k = σ.1 k := by
  funext i s
  simp [hC, h1, h2]
theorem hC_land {σ : HS} {x : Int32} {g : Nat → Int32} {i s : Nat} (h : s ≠ 5) : (hC σ x g).1 2 i s = σ.1 2 i s := by
  simp [hC, h]
theorem hC_town {σ : HS} {x : Int32} {g : Nat → Int32} {i s : Nat} (h : s ≠ 3) : (hC σ x g).1 3 i s = σ.1 3 i s := by
  simp [hC, h]
theorem hC_hands {σ : HS} {x : Int32} {g : Nat → Int32} : (hC σ x g).1 2 0 5 = x := by
  simp [hC]
theorem hC_given {σ : HS} {x : Int32} {g : Nat → Int32} {t : Nat} (h : t < 8) : (hC σ x g).1 3 t 3 = g t := by
  simp [hC, h]
theorem hC_up1 {σ : HS} {x y : Int32} {g : Nat → Int32} : up (hC σ x g) 2 0 5 y = hC σ y g := by
  refine hs_ext (fun k i s => ?_) rfl
  simp only [up, hC]
  by_cases e : k = 2 ∧ i = 0 ∧ s = 5
  · rw [if_pos e, if_pos e]
  · rw [if_neg e, if_neg e, if_neg e]
theorem hC_up2 {σ : HS} {x v : Int32} {g : Nat → Int32} {t : Nat} (ht : t < 8) : up (hC σ x g) 3 t 3 v = hC σ x (fun i => if i = t then v else g i) := by
  refine hs_ext (fun k i s => ?_) rfl
  simp only [up, hC]
  by_cases e : k = 3 ∧ i = t ∧ s = 3
  · obtain ⟨rfl, rfl, rfl⟩ := e
    simp [ht]
  · rw [if_neg e]
    by_cases e2 : k = 2 ∧ i = 0 ∧ s = 5
    · rw [if_pos e2, if_pos e2]
    · rw [if_neg e2, if_neg e2]
      by_cases e3 : k = 3 ∧ i < 8 ∧ s = 3
      · rw [if_pos e3, if_pos e3, if_neg (fun z => e ⟨e3.1, z, e3.2.2⟩)]
      · rw [if_neg e3, if_neg e3]
theorem hC_self (σ : HS) : hC σ (σ.1 2 0 5) (fun t => σ.1 3 t 3) = σ := by
  refine hs_ext (fun k i s => ?_) rfl
  simp only [hC]
  split
  · rename_i e
    obtain ⟨rfl, rfl, rfl⟩ := e
    rfl
  · split
    · rename_i e
      obtain ⟨rfl, h, rfl⟩ := e
      rfl
    · rfl
theorem hM_ne {σ : HS} {x : Int32} {g : Nat → Int32} {k : Nat} (h1 : k ≠ 0) (h2 : k ≠ 49) : (hM σ x g).1 k = σ.1 k := by
  funext i s
  simp [hM, h1, h2]
theorem hM_m {σ : HS} {x : Int32} {g : Nat → Int32} {i s : Nat} (h : s ≠ 59) : (hM σ x g).1 0 i s = σ.1 0 i s := by
  simp [hM, h]
theorem hM_hands {σ : HS} {x : Int32} {g : Nat → Int32} : (hM σ x g).1 0 0 59 = x := by
  simp [hM]
theorem hM_given {σ : HS} {x : Int32} {g : Nat → Int32} {t : Nat} (h : t < 8) : (hM σ x g).1 49 0 t = g t := by
  simp [hM, h]
theorem hM_up1 {σ : HS} {x y : Int32} {g : Nat → Int32} : up (hM σ x g) 0 0 59 y = hM σ y g := by
  refine hs_ext (fun k i s => ?_) rfl
  simp only [up, hM]
  by_cases e : k = 0 ∧ i = 0 ∧ s = 59
  · rw [if_pos e, if_pos e]
  · rw [if_neg e, if_neg e, if_neg e]
theorem hM_up2 {σ : HS} {x v : Int32} {g : Nat → Int32} {t : Nat} (ht : t < 8) : up (hM σ x g) 49 0 t v = hM σ x (fun i => if i = t then v else g i) := by
  refine hs_ext (fun k i s => ?_) rfl
  simp only [up, hM]
  by_cases e : k = 49 ∧ i = 0 ∧ s = t
  · obtain ⟨rfl, rfl, rfl⟩ := e
    simp [ht]
  · rw [if_neg e]
    by_cases e2 : k = 0 ∧ i = 0 ∧ s = 59
    · rw [if_pos e2, if_pos e2]
    · rw [if_neg e2, if_neg e2]
      by_cases e3 : k = 49 ∧ i = 0 ∧ s < 8
      · rw [if_pos e3, if_pos e3, if_neg (fun z => e ⟨e3.1, e3.2.1, z⟩)]
      · rw [if_neg e3, if_neg e3]
theorem hM_self (σ : HS) : hM σ (σ.1 0 0 59) (fun t => σ.1 49 0 t) = σ := by
  refine hs_ext (fun k i s => ?_) rfl
  simp only [hM]
  split
  · rename_i e
    obtain ⟨rfl, rfl, rfl⟩ := e
    rfl
  · split
    · rename_i e
      obtain ⟨rfl, rfl, h⟩ := e
      rfl
    · rfl
