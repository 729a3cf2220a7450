theorem one8 (d : Nat) (σ : HS) (Q : Option AV → HS → Prop) (hd : 1 ≤ d) (k : Q (some (vI 0)) σ) : MT d mX4_readOne [vR 6 0, vI (nI 8)] σ Q :=
  wX4_readOne d _ σ Q hd ⟨fun z => absurd z (by decide), fun _ => k⟩
theorem eith8 (d : Nat) (σ : HS) (Q : Option AV → HS → Prop) (hd : 2 ≤ d) (k : Q (some (vI 0)) σ) : MT d mX4_readEither [vR 6 0, vI (nI 8)] σ Q :=
  wX4_readEither d _ σ Q (wX4_readEither_2 d Q σ _ _ ⟨fun z => absurd z (by decide), fun _ => wX4_readEither_10 d Q σ _ _ _ (by omega) ⟨fun z => absurd z (by decide), fun _ => one8 (d - 1) σ _ (by omega) ⟨_, rfl, fun y => absurd rfl y, fun _ => k⟩⟩⟩)
theorem c1_step {c : CX} {oth : Nat} (ho : oth ≤ 7) (h1 : oth < 7 → C1 c (oth + 1)) (h2 : oth < 7 → C2 c (oth + 1)) : C1 c oth := by
  intro d σ Q i nt q G hd h hS hF
  have hnt := h.2.1.2
  have hq := h.2.2.1.2
  refine wX4_readOne d _ σ Q (by omega) (pk_lt oth 8 (fun _ => ?_) (fun z => by omega))
  rw [nI_1]
  refine acc_s (d - 1) 12 _ _ h.1 (by omega) (fun w => ⟨_, rfl, fun y => absurd y (by decide), fun _ => ?_⟩) (fun w12 => ⟨_, rfl, fun _ => ?_, fun y => absurd rfl y⟩)
  · have c1 := h.at (by omega)
    by_cases e7 : oth = 7
    · subst e7
      exact one8 (d - 1) _ _ (by omega) ⟨_, rfl, fun y => absurd rfl y, fun _ => hF (i + 1) _ c1.1 upAt_fr (one_deepF (Or.inl w))⟩
    · refine h1 (by omega) (d - 1) _ _ (i + 1) nt q G (by omega) c1 (fun j nt2 q2 G2 σ2 c2 f2 I2 => ⟨_, rfl, fun _ => ?_, fun y => absurd y (by decide)⟩) (fun j σ2 c2 f2 r2 => ⟨_, rfl, fun y => absurd rfl y, fun _ => hF j σ2 c2 (upAt_fr.tr f2) (one_notF (by omega) w r2)⟩)
      obtain ⟨e2, t2, q02, b2, g2, r2⟩ := I2
      have hnt2 := c2.2.1.2
      have hq2 := c2.2.2.1.2
      have K11 : (11 - (oth + 1)) * (nt2 - nt) ≤ 10 * (nt2 - nt) := Nat.mul_le_mul_right _ (by omega)
      have K : (11 - oth) * (nt2 - nt) = (11 - (oth + 1)) * (nt2 - nt) + (nt2 - nt) := by rw [show 11 - oth = 11 - (oth + 1) + 1 by omega, Nat.succ_mul]
      rw [c2.1.dr]
      refine ⟨c2.1.1.2.2.2, add_s (d - 1) 12 0 (126, 0, 0) σ2 _ c2 (by omega) (by omega) (by omega) (gOK_op (by omega)) rfl (fun σ3 c3 f3 => ⟨rfl, hS j nt2 (q2 + 1) _ σ3 c3 ((upAt_fr.tr f2).tr f3) ⟨e2.tr Ex.uF q02, t2, by omega, by omega, fun hh hl => ?_, one_not (by omega) w (by omega) r2⟩⟩)⟩
      exact ((g2 hh (by omega)).ext (fun x _ y => Ex.uF x y)).tr (HG.one (mv_not (by omega))) q02 (by omega)
  refine acc_s (d - 1) 40 _ _ h.1 (by omega) (fun w => ⟨_, rfl, fun y => absurd y (by decide), fun _ => ?_⟩) (fun w40 => ⟨_, rfl, fun _ => ?_, fun y => absurd rfl y⟩)
  · have c1 := h.at (by omega)
    by_cases e7 : oth = 7
    · subst e7
      exact eith8 (d - 1) _ _ (by omega) ⟨_, rfl, fun _ => hF (i + 1) _ c1.1 upAt_fr (one_deepF (Or.inr w)), fun y => absurd rfl y⟩
    · refine h2 (by omega) (d - 1) _ _ (i + 1) nt q G (by omega) c1 (fun j nt2 q2 G2 σ2 c2 f2 I2 => ⟨_, rfl, fun y => absurd y (by decide), fun _ => ?_⟩) (fun j σ2 c2 f2 r2 => ⟨_, rfl, fun _ => hF j σ2 c2 (upAt_fr.tr f2) (one_brF1 (by omega) w r2), fun y => absurd rfl y⟩)
      obtain ⟨e2, t2, q02, b2, g2, w2, r2⟩ := I2
      have K : (11 - (oth + 1)) * (nt2 - nt) ≤ (11 - oth) * (nt2 - nt) := Nat.mul_le_mul_right _ (by omega)
      refine acc_s (d - 1) 41 _ _ c2.1 (by omega) (fun w41 => ⟨_, rfl, fun y => absurd y (by decide), fun _ => ?_⟩) (fun w41 => ⟨_, rfl, fun _ => ?_, fun y => absurd rfl y⟩)
      · refine hS (j + 1) nt2 q2 G2 _ (c2.at (by omega)) ((upAt_fr.tr f2).tr upAt_fr) ⟨e2, t2, q02, by omega, fun hh hl => ?_, one_br (by omega) w w41 r2⟩
        exact g2 hh (by omega)
      · exact hF j σ2 c2.1 (upAt_fr.tr f2) (one_brF2 (by omega) w w41 w2 r2)
  have hw : tW c i ≠ 12 ∧ tW c i ≠ 40 := ⟨w12, w40⟩
  refine sum_c (d - 1) σ _ (by omega) h (fun j nt1 q1 G1 σ1 c1 f1 I1 => ⟨_, rfl, fun _ => ?_, fun y => absurd y (by decide)⟩) (fun j σ1 c1 f1 r1 => ⟨_, rfl, fun y => absurd rfl y, fun _ => hF j σ1 c1 f1 (one_cmpF1 ho hw r1)⟩)
  obtain ⟨e1, t1, b1, g1, r1⟩ := I1
  refine here_s (d - 1) σ1 _ c1.1 ⟨_, rfl, ?_⟩
  have go : ∀ w0, (w0 = 60 ∨ w0 = 61 ∨ w0 = 62) → tW c j = w0 → MT (d - 1) mX4_readSum [vR 6 0] (upAt σ1 (j + 1)) (fun r σ_31 => ∃ r_33, r = some (vI r_33) ∧ ((¬ r_33 = 0 → ((σ_31.1 6 0 5).toNatClampNeg < 2 ∧ (MT (d - 1) mX5_addStep [vR 7 ((σ_31.1 6 0 5).toNatClampNeg), vI (nI (tW c j)), vI 0] σ_31 (fun r σ_39 => r = none ∧ Q (some (vI 1)) σ_39)))) ∧ (r_33 = 0 → Q (some (vI 0)) σ_31))) := by
    intro w0 hw0 ew
    have c2 := c1.at (by omega)
    refine sum_c (d - 1) _ _ (by omega) c2 (fun j2 nt2 q2 G2 σ3 c3 f3 I3 => ⟨_, rfl, fun _ => ?_, fun y => absurd y (by decide)⟩) (fun j2 σ3 c3 f3 r3 => ⟨_, rfl, fun y => absurd rfl y, fun _ => hF j2 σ3 c3 ((f1.tr upAt_fr).tr f3) (one_cmpF3 ho hw r1 (by omega) r3)⟩)
    obtain ⟨e3, t3, b3, g3, r3⟩ := I3
    have hnt2 := c3.2.1.2
    have K : 4 * (nt2 - nt) ≤ (11 - oth) * (nt2 - nt) := Nat.mul_le_mul_right _ (by omega)
    rw [c3.1.dr, ew]
    refine ⟨c3.1.1.2.2.2, add_s (d - 1) w0 0 (w0, 0, 0) σ3 _ c3 (by omega) (by omega) (by omega) (gOK_op (by omega)) (by rcases hw0 with rfl | rfl | rfl <;> rfl) (fun σ4 c4 f4 => ⟨rfl, hS j2 nt2 (q2 + 1) _ σ4 c4 (((f1.tr upAt_fr).tr f3).tr f4) ⟨(e1.tr e3 (by omega)).tr Ex.uF (by omega), by omega, by omega, by omega, fun hh hl => ?_, one_cmp ho hw r1 ew hw0 r3 (by omega)⟩⟩)⟩
    have a1 := (g1 hh (by omega)).ext (G2 := uF G2 q2 (w0, 0, 0)) (fun x _ y => by rw [Ex.uF x (by omega), e3 x (by omega)])
    have a2 := (g3 (hh + 1) (by omega)).ext (G2 := uF G2 q2 (w0, 0, 0)) (fun x _ y => Ex.uF x (by omega))
    exact (a1.tr a2 (by omega) (by omega)).tr (HG.one (mv_two (x := w0) (by omega) (by omega))) (by omega) (by omega)
  refine acc_s (d - 1) 60 _ _ c1.1 (by omega) (fun w => ⟨_, rfl, fun _ => go 60 (by omega) w, fun y => absurd y (by decide)⟩) (fun w60 => ⟨_, rfl, fun y => absurd rfl y, fun _ => ?_⟩)
  refine acc_s (d - 1) 62 _ _ c1.1 (by omega) (fun w => ⟨_, rfl, fun _ => go 62 (by omega) w, fun y => absurd y (by decide)⟩) (fun w62 => ⟨_, rfl, fun y => absurd rfl y, fun _ => ?_⟩)
  refine acc_s (d - 1) 61 _ _ c1.1 (by omega) (fun w => ⟨_, rfl, fun _ => go 61 (by omega) w, fun y => absurd y (by decide)⟩) (fun w61 => ⟨_, rfl, fun y => absurd rfl y, fun _ => ?_⟩)
  exact hF j σ1 c1.1 f1 (one_cmpF2 ho hw r1 ⟨w60, w61, w62⟩)
theorem c1_all {c : CX} : ∀ m oth, oth + m = 7 → C1 c oth
  | 0, oth, h => c1_step (by omega) (fun z => by omega) (fun z => by omega)
  | m + 1, oth, h => c1_step (by omega) (fun z => c1_all m (oth + 1) (by omega)) (fun z => c2_of (by omega) (c1_all m (oth + 1) (by omega)))
theorem c2_all (c : CX) : C2 c 0 := c2_of (by omega) (c1_all 7 0 (by omega))
/-- the whole condition, in the reference -/
def REx (c : CX) (i nt q : Nat) (G : Nat → GI) (j nt2 q2 : Nat) (G2 : Nat → GI) : Prop := ∀ d σ Q, 15 ≤ d → RS c σ i nt q G → (∀ σ2, RS c σ2 j nt2 q2 G2 → Fr (cE (crb c)) σ σ2 → Q none σ2) → MT d mX11_e [vR 0 0] σ Q
def RExF (c : CX) (i nt q : Nat) (G : Nat → GI) (j : Nat) : Prop := ∀ d σ Q, 15 ≤ d → RS c σ i nt q G → (∀ σ2, RF c σ2 j → Fr (cE (crb c)) σ σ2 → Q none σ2) → MT d mX11_e [vR 0 0] σ Q
theorem e_start {c : CX} {i nt q : Nat} {G : Nat → GI} (d : Nat) (σ : HS) (Q : Option AV → HS → Prop) (hd : 15 ≤ d) (h : RS c σ i nt q G) (k : ∀ σ2, RS c σ2 i nt q G → SK σ2 [5] 0 → Fr (cE (crb c)) σ σ2 → atX11_e_17 d Q σ2 1) : MT d mX11_e [vR 0 0] σ Q := by
  refine wX11_e d σ Q (by omega) ?_
  rintro _ rfl _ rfl
  have h2 := (h.pl (x := 0)).dp (x := 0)
  have f2 : Fr (cE (crb c)) σ (up (up σ 0 0 35 0) 0 0 36 0) := (Fr.rf.up (by simp [cE])).up (by simp [cE])
  refine pile_s (S := []) (dp := 0) (d - 1) 5 _ _ h2 ⟨?_, True.intro, ?_⟩ (by decide) (fun σ2 a s f => ⟨rfl, k σ2 a s (f2.tr f)⟩)
  · rw [up_f (by decide), up_same]; rfl
  · rw [up_same]; rfl
theorem rex_of {c : CX} {i nt q j nt2 q2 : Nat} {G G2 : Nat → GI} (hj : tW c j ≠ 10 ∧ tW c j ≠ 11) (r : RRs c 0 0 0 i nt q G j nt2 q2 G2) : REx c i nt q G j nt2 q2 G2 := by
  intro d σ Q hd h k
  exact e_start d σ Q hd h (fun σ2 a s f => r d σ2 Q 5 [] (by omega) a (Or.inr rfl) s (by simp) (fun σ3 a3 s3 f3 => BL_all d σ3 Q (by omega) hj a3 s3 (fun σ4 a4 f4 => k σ4 a4 ((f.tr f3).tr f4))))
theorem rexF_of {c : CX} {i nt q j : Nat} {G : Nat → GI} (r : RRsF c 0 0 0 i nt q G j) : RExF c i nt q G j := by
  intro d σ Q hd h k
  exact e_start d σ Q hd h (fun σ2 a s f => r d σ2 Q 5 [] (by omega) a (Or.inr rfl) s (by simp) (fun σ3 a3 f3 => k σ3 a3 (f.tr f3)))
