/-! the reference: measure -/
section
variable {G : HS} {w : WD} {κ T : Nat} {X lf op p q : Nat → Nat} {cw : Int32 × Int32}
theorem pass_ok (d : Nat) (Q : Option AV → HS → Prop) (hd : 3 ≤ d) (hW : WO G w) (pv : PV (61 * wn w) (wf w) (rA w κ) (rc w) X lf op p q T) (hκ : κ < 3) : ∀ m j, j + m = wf w → ∀ σ z z0 fl, fl ≤ 1 → RZ G w κ X lf op p q cw σ z → RLE w z0 z 0 fl → (fl = 0 → ∀ f, f < j → RXf w κ X z f) →
      (∀ σ2 z2 fl2, fl2 ≤ 1 → RZ G w κ X lf op p q cw σ2 z2 → RLE w z0 z2 0 fl2 → (fl2 = 0 → ∀ f, f < wf w → RXf w κ X z2 f) → atX11_measure_75 d Q σ2 (nI κ) (nI fl2)) → atX11_measure_83 d Q σ (nI κ) (nI fl) (nI j) := by
  have h2 := hW.1.2.2.1
  intro m
  induction m with
  | zero =>
    intro j hj σ z z0 fl hfl hz le rx k
    refine wX11_measure_83 d Q σ _ _ _ (by omega) ?_
    rw [hz.1 0 0 55 rfl, hW.1.2.2.2.2.2.1]
    exact ⟨fun _ => k σ z fl hfl hz le (fun e f hf => rx e f (by omega)), fun y => absurd (nI_le (by omega) (by omega)) y⟩
  | succ m ih =>
    intro j hj σ z z0 fl hfl hz le rx k
    have kd := (hW.2.2.1 j (by omega)).2.2.1
    refine wX11_measure_83 d Q σ _ _ _ (by omega) ?_
    rw [hz.1 0 0 55 rfl, hW.1.2.2.2.2.2.1, nI_clamp (show j < 2 ^ 31 by omega), hz.1 40 0 j rfl, kd.1]
    refine ⟨fun y => absurd y (nI_ge (by omega) (by omega)), fun _ => ⟨vp_in_nI (by omega) (by omega), And.symm (pk_eq (wfk w j) κ (fun e => ?_) (fun e => ?_))⟩⟩
    · refine near_ok (d - 1) σ z _ (by omega) hW pv (by omega) e hz (fun σ2 z2 fl2 f2 a b r => ⟨_, rfl, ?_⟩)
      have e2 : fl2 = 0 ∨ fl2 = 1 := by omega
      rcases e2 with rfl | rfl
      · have ez : z2 = z := by
          rcases b with ⟨y, -⟩ | ⟨y, -⟩
          · exact y
          · omega
        subst ez
        have go : ∀ j2, j2 = nI j + 1 → atX11_measure_83 d Q σ2 (nI κ) (nI fl) j2 := by
          rintro _ rfl
          rw [nI_1]
          refine ih (j + 1) (by omega) σ2 z2 z0 fl hfl a le (fun e0 f hf => ?_) k
          by_cases y : f = j
          · subst y; exact r
          · exact rx e0 f (by omega)
        refine ⟨fun y => absurd rfl y, fun _ => ?_⟩
        have e3 : fl = 0 ∨ fl = 1 := by omega
        rcases e3 with rfl | rfl
        · exact ⟨fun _ => go, fun y => absurd rfl y⟩
        · exact ⟨fun y => absurd y (by decide), fun _ => go⟩
      · refine ⟨fun _ => ?_, fun y => absurd y (by decide)⟩
        rintro _ rfl
        rw [nI_1]
        refine ih (j + 1) (by omega) σ2 z2 z0 1 (Nat.le_refl _) a (Or.inr ⟨rfl, ?_⟩) (fun e0 => absurd e0 (by decide)) k
        have b2 : phi (61 * wn w) (wf w) z2 < phi (61 * wn w) (wf w) z := by
          rcases b with ⟨-, y⟩ | ⟨-, y⟩
          · omega
          · exact y
        rcases le with ⟨y, -⟩ | ⟨-, y⟩
        · rw [← y]; exact b2
        · omega
    · rintro _ rfl
      rw [nI_1]
      refine ih (j + 1) (by omega) σ z z0 fl hfl hz le (fun e0 f hf => ?_) k
      by_cases y : f = j
      · subst y
        refine ⟨fun l _ ra => absurd ra.1 e, fun l hl xp => ?_⟩
        exact absurd (pv.2.1 l f hl (by omega) xp).1.1 e
      · exact rx e0 f (by omega)
theorem m75_ok (d : Nat) (Q : Option AV → HS → Prop) (hd : 3 ≤ d) (hW : WO G w) (pv : PV (61 * wn w) (wf w) (rA w κ) (rc w) X lf op p q T) (hκ : κ < 3) (k : ∀ σ2 z2, RZ G w κ X lf op p q cw σ2 z2 → (∀ f, f < wf w → RXf w κ X z2 f) → Q none σ2) : ∀ n σ z, phi (61 * wn w) (wf w) z < n → RZ G w κ X lf op p q cw σ z → atX11_measure_75 d Q σ (nI κ) 1 := by
  intro n
  induction n with
  | zero => intro σ z h; omega
  | succ n ih =>
    intro σ z hn hz
    refine wX11_measure_75 d Q σ _ _ ⟨fun y => absurd y (by decide), fun _ => ?_⟩
    refine pass_ok d Q hd hW pv hκ (wf w) 0 (by omega) σ z z 0 (by omega) hz RLE.rf (fun _ f hf => absurd hf (Nat.not_lt_zero f)) (fun σ2 z2 fl2 f2 a b r => ?_)
    have e2 : fl2 = 0 ∨ fl2 = 1 := by omega
    rcases e2 with rfl | rfl
    · exact wX11_measure_75 d Q σ2 _ _ ⟨fun _ => k σ2 z2 a (r rfl), fun y => absurd rfl y⟩
    · refine ih σ2 z2 ?_ a
      rcases b with ⟨-, y⟩ | ⟨-, y⟩
      · omega
      · omega
theorem m2_ok (d : Nat) (Q : Option AV → HS → Prop) (hW : WO G w) : ∀ m j, j + m = 61 * wn w → ∀ σ, Sim G σ → RG σ (61 * wn w) (wf w) X lf op cw → (∀ l, l < j → σ.1 45 0 l = nI (if 0 < lf l then 0 else 100000000) ∧ σ.1 47 0 l = -1) →
      (∀ σ2, Sim G σ2 → RG σ2 (61 * wn w) (wf w) X lf op cw → (∀ l, l < 61 * wn w → σ2.1 45 0 l = nI (if 0 < lf l then 0 else 100000000) ∧ σ2.1 47 0 l = -1) → atX11_measure_50 d Q σ2 (nI κ) 0) → atX11_measure_2 d Q σ (nI κ) (nI j) := by
  have h1 := hW.1.1
  intro m
  induction m with
  | zero =>
    intro j hj σ hs hg hl k
    refine wX11_measure_2 d Q σ _ _ ?_
    rw [hs 0 0 7 rfl, hW.1.2.2.2.1.1, lt61 h1]
    exact ⟨fun _ => k σ hs hg (fun l hl2 => hl l (by omega)), fun y => absurd (nI_le (by omega) (by omega)) y⟩
  | succ m ih =>
    intro j hj σ hs hg hl k
    have vx : vp_in (nI j) 488 := vp_in_nI (by omega) (by omega)
    have lb := (hg.1 j (by omega)).2
    have go : ∀ v : Nat, (if 0 < lf j then 0 else 100000000) = v → atX11_measure_2 d Q (up (up σ 45 0 j (nI v)) 47 0 j (-1)) (nI κ) (nI (j + 1)) := by
      rintro _ rfl
      refine ih (j + 1) (by omega) _ ((hs.up rfl).up rfl) ((hg.upk (by decide) (by decide) (by decide) (by decide)).upk (by decide) (by decide) (by decide) (by decide)) (fun l hl2 => ?_) k
      rw [up_ne (show (45 : Nat) ≠ 47 by decide)]
      by_cases z : l = j
      · subst z
        rw [up_same, up_same]
        exact ⟨rfl, rfl⟩
      · rw [up_f z, up_f z, up_ne (show (47 : Nat) ≠ 45 by decide)]
        exact hl l (by omega)
    refine wX11_measure_2 d Q σ _ _ ?_
    rw [hs 0 0 7 rfl, hW.1.2.2.2.1.1, lt61 h1, nI_clamp (show j < 2 ^ 31 by omega), (hg.1 j (by omega)).1]
    refine ⟨fun y => absurd y (nI_ge (by omega) (by omega)), fun _ => ⟨vx, pk_le (lf j) 0 (fun y => ⟨vx, ?_⟩) (fun y => ⟨vx, ?_⟩)⟩⟩
    · rintro _ rfl
      refine ⟨vx, ?_⟩
      rintro _ rfl _ rfl
      rw [nI_1]
      exact go 100000000 (if_neg (by omega))
    · rintro _ rfl
      refine ⟨vx, ?_⟩
      rintro _ rfl _ rfl
      rw [nI_1]
      exact go 0 (if_pos y)
theorem m50_ok (d : Nat) (Q : Option AV → HS → Prop) (hW : WO G w) : ∀ m j, j + m = wf w → ∀ σ, Sim G σ → RG σ (61 * wn w) (wf w) X lf op cw → (∀ l, l < 61 * wn w → σ.1 45 0 l = nI (if 0 < lf l then 0 else 100000000) ∧ σ.1 47 0 l = -1) → (∀ f, f < j → σ.1 46 0 f = nI 100000000) →
      (∀ σ2, Sim G σ2 → RG σ2 (61 * wn w) (wf w) X lf op cw → (∀ l, l < 61 * wn w → σ2.1 45 0 l = nI (if 0 < lf l then 0 else 100000000) ∧ σ2.1 47 0 l = -1) → (∀ f, f < wf w → σ2.1 46 0 f = nI 100000000) → atX11_measure_75 d Q σ2 (nI κ) 1) → atX11_measure_50 d Q σ (nI κ) (nI j) := by
  have h2 := hW.1.2.2.1
  intro m
  induction m with
  | zero =>
    intro j hj σ hs hg hl hf k
    refine wX11_measure_50 d Q σ _ _ ?_
    rw [hs 0 0 55 rfl, hW.1.2.2.2.2.2.1]
    exact ⟨fun _ => k σ hs hg hl (fun f hf2 => hf f (by omega)), fun y => absurd (nI_le (by omega) (by omega)) y⟩
  | succ m ih =>
    intro j hj σ hs hg hl hf k
    refine wX11_measure_50 d Q σ _ _ ?_
    rw [hs 0 0 55 rfl, hW.1.2.2.2.2.2.1, nI_clamp (show j < 2 ^ 31 by omega)]
    refine ⟨fun y => absurd y (nI_ge (by omega) (by omega)), fun _ => ⟨vp_in_nI (by omega) (by omega), ?_⟩⟩
    rintro _ rfl _ rfl
    rw [nI_1]
    refine ih (j + 1) (by omega) _ (hs.up rfl) (hg.upk (by decide) (by decide) (by decide) (by decide)) (fun l hl2 => ?_) (fun f hf2 => ?_) k
    · rw [up_ne (show (45 : Nat) ≠ 46 by decide), up_ne (show (47 : Nat) ≠ 46 by decide)]
      exact hl l hl2
    · by_cases z : f = j
      · subst z
        rw [up_same]
        rfl
      · rw [up_f z]
        exact hf f (by omega)
theorem meas_ok (d : Nat) (σ : HS) (Q : Option AV → HS → Prop) (hd : 3 ≤ d) (hW : WO G w) (pv : PV (61 * wn w) (wf w) (rA w κ) (rc w) X lf op p q T) (hT : T ≤ 100000000) (hκ : κ < 3) (hs : Sim G σ) (hg : RG σ (61 * wn w) (wf w) X lf op cw) (k : ∀ σ2 z2, RZ G w κ X lf op p q cw σ2 z2 → (∀ f, f < wf w → RXf w κ X z2 f) → Q none σ2) : MT d mX11_measure [vR 0 0, vI (nI κ)] σ Q := by
  refine wX11_measure d _ σ Q (m2_ok d Q hW (61 * wn w) 0 (by omega) σ hs hg (fun l hl => absurd hl (Nat.not_lt_zero l)) (fun σ2 s2 g2 l2 => m50_ok d Q hW (wf w) 0 (by omega) σ2 s2 g2 l2 (fun f hf => absurd hf (Nat.not_lt_zero f)) (fun σ3 s3 g3 l3 f3 => ?_)))
  refine m75_ok d Q hd hW pv hκ k _ σ3 ((fun l => if 0 < lf l then 0 else 100000000), (fun _ => 100000000), (fun _ => 0), (fun _ => none)) (Nat.lt_succ_self _) ⟨s3, g3, ⟨fun l hl => l3 l hl, fun f hf => ⟨f3 f hf, fun y => absurd y (Nat.lt_irrefl _)⟩⟩, _, _, _, BI.init pv hT (fun l _ => rfl) (fun f _ => rfl) (fun l _ => rfl)⟩
theorem RXf.fx {z : ZS} (h : ∀ f, f < wf w → RXf w κ X z f) : FX (61 * wn w) (wf w) 100000000 (rA w κ) (rc w) X z.1 z.2.1 := ⟨fun l f hl hf ra _ => (h f hf).1 l hl ra, fun l f hl hf xp _ => (h f hf).2 l hl xp⟩
end
