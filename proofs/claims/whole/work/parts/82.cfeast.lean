/-! the class: the feasts of a kind -/
def KC (σ : HS) (cw : Int32 × Int32) : Prop := σ.1 10 0 15 = cw.1 ∧ σ.1 10 0 16 = cw.2
abbrev FA := (Nat → Nat) × (Nat → Nat) × (Nat → Nat) × (Nat → Nat)
def KF (σ : HS) (nE : Nat) (a : FA) : Prop := σ.1 10 0 0 = nI nE ∧ ∀ e, e < nE → σ.1 85 0 e = nI (a.1 e) ∧ σ.1 86 0 e = nI (a.2.1 e) ∧ σ.1 87 0 e = nI (a.2.2.1 e) ∧ σ.1 88 0 e = nI (a.2.2.2 e)
/-- feasts f < j are gathered: f stands at ψ f -/
def GF (w : WD) (κ j nE : Nat) (ψ : Nat → Nat) (a : FA) : Prop := nE ≤ j ∧
  (∀ f, f < j → (ψ f < nE ∧ wfk w f = κ ∧ wm w ≤ wfm w f ∧ wfm w f ≤ wm w + wkp w κ ∧ a.1 (ψ f) = wft w f ∧ a.2.1 (ψ f) = wfm w f ∧ a.2.2.1 (ψ f) = wkp w κ - (wfm w f - wm w)) ∨ (ψ f = 1000 ∧ ¬ (wfk w f = κ ∧ wm w ≤ wfm w f ∧ wfm w f ≤ wm w + wkp w κ))) ∧
  (∀ e, e < nE → a.2.2.2 e = sm (fun f => if ψ f = e then rd w κ f else 0) j) ∧ ∀ e, e < nE → a.1 e < wn w ∧ a.2.1 e ≤ 2000 ∧ a.2.2.1 e ≤ 60 ∧ a.2.2.2 e ≤ 10000
section
variable {G : HS} {w : WD} {κ : Nat} {cw : Int32 × Int32}
theorem GF.skip {j nE : Nat} {ψ : Nat → Nat} {a : FA} (h : GF w κ j nE ψ a) (hj : nE ≤ 10) (no : ¬ (wfk w j = κ ∧ wm w ≤ wfm w j ∧ wfm w j ≤ wm w + wkp w κ)) : GF w κ (j + 1) nE (uF ψ j 1000) a := by
  obtain ⟨h1, h2, h3, h4⟩ := h
  refine ⟨by omega, fun f hf => ?_, fun e he => ?_, h4⟩
  · by_cases z : f = j
    · subst z
      rw [uF_s]
      exact Or.inr ⟨rfl, no⟩
    · rw [uF_n z]
      exact h2 f (by omega)
  · rw [h3 e he, sm_succ, uF_s, if_neg (by omega)]
    refine sm_cong (fun f hf => ?_)
    rw [uF_n (by omega)]
theorem GF.take {j nE : Nat} {ψ : Nat → Nat} {a : FA} (hW : WO G w) (h : GF w κ j nE ψ a) (hj : j < wf w) (hκ : κ < 3) (yes : wfk w j = κ ∧ wm w ≤ wfm w j ∧ wfm w j ≤ wm w + wkp w κ) : GF w κ (j + 1) (nE + 1) (uF ψ j nE) (uF a.1 nE (wft w j), uF a.2.1 nE (wfm w j), uF a.2.2.1 nE (wkp w κ - (wfm w j - wm w)), uF a.2.2.2 nE (wfw w j)) := by
  have h2' := hW.1.2.2.1
  obtain ⟨⟨-, -, w1⟩, ⟨-, -, w2⟩, -, ⟨-, -, w4⟩⟩ := hW.2.2.1 j hj
  have w3 := (hW.2.1 κ hκ).2.2
  obtain ⟨h1, h2, h3, h4⟩ := h
  refine ⟨by omega, fun f hf => ?_, fun e he => ?_, fun e he => ?_⟩
  · by_cases z : f = j
    · subst z
      rw [uF_s]
      dsimp only
      rw [uF_s, uF_s, uF_s]
      exact Or.inl ⟨by omega, yes.1, yes.2.1, yes.2.2, rfl, rfl, rfl⟩
    · rw [uF_n z]
      dsimp only
      rcases h2 f (by omega) with ⟨a1, a2⟩ | a1
      · rw [uF_n (by omega), uF_n (by omega), uF_n (by omega)]
        exact Or.inl ⟨by omega, a2⟩
      · exact Or.inr a1
  · dsimp only
    rw [sm_succ, uF_s]
    by_cases z : e = nE
    · subst z
      rw [uF_s, if_pos rfl, sm_zero (fun f hf => ?_)]
      · unfold rd
        rw [if_pos yes.1]
        omega
      · rw [uF_n (by omega)]
        refine if_neg (fun y => ?_)
        rcases h2 f hf with ⟨a1, -⟩ | ⟨a1, -⟩
        · omega
        · omega
    · rw [uF_n z, if_neg (fun y => z y.symm), h3 e (by omega)]
      refine sm_cong (fun f hf => ?_)
      rw [uF_n (show f ≠ j by omega)]
  · dsimp only
    by_cases z : e = nE
    · subst z
      rw [uF_s, uF_s, uF_s, uF_s]
      exact ⟨w1, w2, by omega, w4⟩
    · rw [uF_n z, uF_n z, uF_n z, uF_n z]
      exact h4 e (by omega)
theorem gf_ok (d : Nat) (Q : Option AV → HS → Prop) (hW : WO G w) (hκ : κ < 3) (k : ∀ σ2 nE ψ a, Sim G σ2 → KC σ2 cw → KF σ2 nE a → GF w κ (wf w) nE ψ a → Q none σ2) : ∀ m j, j + m = wf w → ∀ σ nE ψ a, Sim G σ → KC σ cw → KF σ nE a → GF w κ j nE ψ a → atX6_gatherFeasts_8 d Q σ (nI κ) (nI j) := by
  have h2 := hW.1.2.2.1
  have h3 := hW.1.2.1
  intro m
  induction m with
  | zero =>
    intro j hj σ nE ψ a hs hc hf hg
    refine wX6_gatherFeasts_8 d Q σ _ _ ?_
    rw [hs 9 0 4 rfl, hW.1.2.2.2.2.2.2]
    have e : j = wf w := by omega
    refine ⟨fun _ => k σ nE ψ a hs hc hf (by rw [← e]; exact hg), fun y => absurd (nI_le (by omega) (by omega)) y⟩
  | succ m ih =>
    intro j hj σ nE ψ a hs hc hf hg
    have n10 := hg.1
    obtain ⟨⟨-, t1, t2⟩, ⟨-, m1, m2⟩, ⟨-, k1, k2⟩, ⟨-, q1, q2⟩⟩ := hW.2.2.1 j (by omega)
    obtain ⟨-, kp1, kp2⟩ := hW.2.1 κ hκ
    have vx : vp_in (nI j) 10 := vp_in_nI (by omega) (by omega)
    have vk : vp_in (nI κ) 3 := vp_in_nI hκ (by omega)
    have vn : vp_in (nI nE) 10 := vp_in_nI (by omega) (by omega)
    have skip : ¬ (wfk w j = κ ∧ wm w ≤ wfm w j ∧ wfm w j ≤ wm w + wkp w κ) → ∀ x, x = nI j + 1 → atX6_gatherFeasts_8 d Q σ (nI κ) x := by
      rintro no _ rfl
      rw [nI_1]
      exact ih (j + 1) (by omega) σ nE _ a hs hc hf (hg.skip (by omega) no)
    refine wX6_gatherFeasts_8 d Q σ _ _ ?_
    rw [hs 9 0 4 rfl, hW.1.2.2.2.2.2.2, nI_clamp (show j < 2 ^ 31 by omega), nI_clamp (show κ < 2 ^ 31 by omega), hs 82 0 j rfl, m1, hs 2 0 4 rfl, hW.1.2.2.2.2.1.2, hs 83 0 j rfl, k1, hs 62 0 κ rfl, kp1]
    refine ⟨fun y => absurd y (nI_ge (by omega) (by omega)), fun _ => ⟨vx, ?_⟩⟩
    rintro _ rfl
    refine ⟨vx, And.symm (pk_eq (wfk w j) κ (fun e => ?_) (fun e => skip (fun z => e z.1)))⟩
    by_cases lt : wfm w j < wm w
    · exact ⟨fun _ => skip (fun z => by omega), fun y => absurd (pk_sneg (by omega) lt) y⟩
    rw [pk_sub (by omega)]
    refine ⟨fun y => absurd y (nI_pos (by omega)), fun _ => ⟨vk, pk_lt (wkp w κ) (wfm w j - wm w) (fun y => skip (fun z => by omega)) (fun y => ⟨vx, ?_⟩)⟩⟩
    rw [hf.1, hs 81 0 j rfl, t1, nI_clamp (show nE < 2 ^ 31 by omega)]
    refine ⟨vn, ?_⟩
    rintro _ rfl
    refine ⟨vx, ?_⟩
    rw [up_ne (show (10 : Nat) ≠ 85 by decide), hf.1, up_ne (show (82 : Nat) ≠ 85 by decide), hs 82 0 j rfl, m1, nI_clamp (show nE < 2 ^ 31 by omega)]
    refine ⟨vn, ?_⟩
    rintro _ rfl
    refine ⟨vk, ?_⟩
    rw [up_ne (show (10 : Nat) ≠ 86 by decide), up_ne (show (10 : Nat) ≠ 85 by decide), hf.1, up_ne (show (62 : Nat) ≠ 86 by decide), up_ne (show (62 : Nat) ≠ 85 by decide), hs 62 0 κ rfl, kp1, nI_clamp (show nE < 2 ^ 31 by omega), pk_sub (by omega)]
    refine ⟨vn, ?_⟩
    rintro _ rfl
    refine ⟨vx, ?_⟩
    rw [up_ne (show (10 : Nat) ≠ 87 by decide), up_ne (show (10 : Nat) ≠ 86 by decide), up_ne (show (10 : Nat) ≠ 85 by decide), hf.1, up_ne (show (84 : Nat) ≠ 87 by decide), up_ne (show (84 : Nat) ≠ 86 by decide), up_ne (show (84 : Nat) ≠ 85 by decide), hs 84 0 j rfl, q1, nI_clamp (show nE < 2 ^ 31 by omega)]
    refine ⟨vn, ?_⟩
    rintro _ rfl _ rfl _ rfl
    rw [up_ne (show (10 : Nat) ≠ 88 by decide), up_ne (show (10 : Nat) ≠ 87 by decide), up_ne (show (10 : Nat) ≠ 86 by decide), up_ne (show (10 : Nat) ≠ 85 by decide), hf.1, nI_1, nI_1]
    refine ih (j + 1) (by omega) _ (nE + 1) _ _ (((((hs.up rfl).up rfl).up rfl).up rfl).up rfl) ⟨?_, ?_⟩ ⟨up_same, fun e2 he => ?_⟩ (hg.take hW (by omega) hκ ⟨e, by omega, by omega⟩)
    · rw [up_f (by decide), up_ne (by decide), up_ne (by decide), up_ne (by decide), up_ne (by decide)]; exact hc.1
    · rw [up_f (by decide), up_ne (by decide), up_ne (by decide), up_ne (by decide), up_ne (by decide)]; exact hc.2
    · rw [up_ne (show (85 : Nat) ≠ 10 by decide), up_ne (show (85 : Nat) ≠ 88 by decide), up_ne (show (85 : Nat) ≠ 87 by decide), up_ne (show (85 : Nat) ≠ 86 by decide),
        up_ne (show (86 : Nat) ≠ 10 by decide), up_ne (show (86 : Nat) ≠ 88 by decide), up_ne (show (86 : Nat) ≠ 87 by decide),
        up_ne (show (87 : Nat) ≠ 10 by decide), up_ne (show (87 : Nat) ≠ 88 by decide), up_ne (show (88 : Nat) ≠ 10 by decide)]
      dsimp only
      by_cases z : e2 = nE
      · subst z
        rw [up_same, up_same, up_same, up_same, uF_s, uF_s, uF_s, uF_s]
        exact ⟨rfl, rfl, rfl, rfl⟩
      · rw [up_f z, up_f z, up_f z, up_f z, uF_n z, uF_n z, uF_n z, uF_n z, up_ne (show (86 : Nat) ≠ 85 by decide), up_ne (show (87 : Nat) ≠ 86 by decide), up_ne (show (87 : Nat) ≠ 85 by decide), up_ne (show (88 : Nat) ≠ 87 by decide), up_ne (show (88 : Nat) ≠ 86 by decide), up_ne (show (88 : Nat) ≠ 85 by decide)]
        exact hf.2 e2 (by omega)
theorem gfeast_ok (d : Nat) (σ : HS) (Q : Option AV → HS → Prop) (hW : WO G w) (hκ : κ < 3) (hs : Sim G σ) (hc : KC σ cw) (k : ∀ σ2 nE ψ a, Sim G σ2 → KC σ2 cw → KF σ2 nE a → GF w κ (wf w) nE ψ a → Q none σ2) : MT d mX6_gatherFeasts [vR 10 0, vR 2 0, vR 9 0, vI (nI κ)] σ Q := by
  refine wX6_gatherFeasts d _ σ Q ?_
  rintro _ rfl
  refine gf_ok d Q hW hκ k (wf w) 0 (by omega) _ 0 (fun _ => 0) ((fun _ => 0), (fun _ => 0), (fun _ => 0), (fun _ => 0)) (hs.up rfl) ⟨?_, ?_⟩ ⟨up_same, fun e he => absurd he (Nat.not_lt_zero e)⟩ ⟨Nat.le_refl _, fun f hf => absurd hf (Nat.not_lt_zero f), fun e he => absurd he (Nat.not_lt_zero e), fun e he => absurd he (Nat.not_lt_zero e)⟩
  · rw [up_f (by decide)]; exact hc.1
  · rw [up_f (by decide)]; exact hc.2
end
