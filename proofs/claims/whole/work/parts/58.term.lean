/-! a term -/
def TmS (c : CX) (i j : Nat) (g : GI) : Prop :=
  (tW c i = 2 ∧ j = i + 1 ∧ g = (110, tV c i, 0)) ∨ (tW c i = 13 ∧ j = i + 1 ∧ g = (109, 0, 0)) ∨ (tW c i = 14 ∧ tW c (i + 1) = 3 ∧ j = i + 2 ∧ g = (112, tV c (i + 1), 0)) ∨ (tW c i = 17 ∧ tW c (i + 1) = 3 ∧ j = i + 2 ∧ g = (114, tV c (i + 1), 0)) ∨
  (tW c i = 15 ∧ tW c (i + 1) = 3 ∧ tW c (i + 2) = 4 ∧ j = i + 3 ∧ g = (115, tV c (i + 1), tV c (i + 2))) ∨ (tW c i = 16 ∧ tW c (i + 1) = 3 ∧ tW c (i + 2) = 4 ∧ j = i + 3 ∧ g = (111, tV c (i + 1), tV c (i + 2)))
def TmF (c : CX) (i nt j : Nat) : Prop := (nt = 80 ∧ j = i) ∨ (nt < 80 ∧ ((tW c i ≠ 2 ∧ tW c i ≠ 13 ∧ tW c i ≠ 14 ∧ tW c i ≠ 15 ∧ tW c i ≠ 16 ∧ tW c i ≠ 17 ∧ j = i) ∨ ((tW c i = 14 ∨ tW c i = 15 ∨ tW c i = 16 ∨ tW c i = 17) ∧ tW c (i + 1) ≠ 3 ∧ j = i + 1) ∨ ((tW c i = 15 ∨ tW c i = 16) ∧ tW c (i + 1) = 3 ∧ tW c (i + 2) ≠ 4 ∧ j = i + 2)))
theorem TmS.det {c : CX} {i j j2 : Nat} {g g2 : GI} (a : TmS c i j g) (b : TmS c i j2 g2) : j2 = j ∧ g2 = g := by
  rcases a with ⟨a1, a2, a3⟩ | ⟨a1, a2, a3⟩ | ⟨a1, _, a2, a3⟩ | ⟨a1, _, a2, a3⟩ | ⟨a1, _, _, a2, a3⟩ | ⟨a1, _, _, a2, a3⟩ <;> rcases b with ⟨b1, b2, b3⟩ | ⟨b1, b2, b3⟩ | ⟨b1, _, b2, b3⟩ | ⟨b1, _, b2, b3⟩ | ⟨b1, _, _, b2, b3⟩ | ⟨b1, _, _, b2, b3⟩ <;> first | (exfalso; omega) | exact ⟨by omega, by rw [a3, b3]⟩
theorem TmS.notF {c : CX} {i j j2 nt : Nat} {g : GI} (a : TmS c i j g) (h : nt < 80) (b : TmF c i nt j2) : False := by
  unfold TmS at a
  unfold TmF at b
  omega
theorem TmF.det {c : CX} {i j j2 nt : Nat} (a : TmF c i nt j) (b : TmF c i nt j2) : j2 = j := by
  unfold TmF at a b
  omega
theorem CP.dr {c : CX} {σ : HS} {i : Nat} (h : CP c σ i) : (σ.1 6 0 5).toNatClampNeg = cdr c := by
  rw [h.2.2.2.2, nI_clamp (by have := h.1.2.2.2; omega)]
theorem CS.terms {c : CX} {σ : HS} {i nt q : Nat} {G : Nat → GI} (h : CS c σ i nt q G) (ht : nt < 80) : CS c (up σ 6 0 2 (nI (nt + 1))) i (nt + 1) q G := by
  obtain ⟨⟨h0, h1, h2, h3, h4⟩, h5, h6, h7⟩ := h
  refine ⟨⟨h0, h1.fr (c := cC 0) (Fr.rf.up rfl) rfl (fun _ => rfl) (fun _ => rfl) (fun _ => rfl), h2, ?_, ?_⟩, ⟨up_same, by omega⟩, ⟨?_, by omega⟩, fun j hj => ?_⟩
  · rw [up_f (by decide)]; exact h3
  · rw [up_f (by decide)]; exact h4
  · rw [up_ne (by decide)]; exact h6.1
  · rw [up_ne (by decide)]; exact h7 j hj
theorem term_c {c : CX} {i nt q : Nat} {G : Nat → GI} (d : Nat) (σ : HS) (Q : Option AV → HS → Prop) (hd : 2 ≤ d) (h : CS c σ i nt q G)
    (hS : nt < 80 → ∀ j g σ2, TmS c i j g → gOK g → CS c σ2 j (nt + 1) (q + 1) (uF G q g) → Fr (cC (cdr c)) σ σ2 → Q (some (vI 1)) σ2)
    (hF : ∀ j σ2, TmF c i nt j → CP c σ2 j → Fr (cC (cdr c)) σ σ2 → Q (some (vI 0)) σ2) : MT d mX4_readTerm [vR 6 0] σ Q := by
  have hnt := h.2.1.2
  refine wX4_readTerm d σ Q (by omega) ?_
  rw [h.2.1.1]
  refine pk_lt nt 80 (fun z => ?_) (fun z => hF i σ (Or.inl ⟨by have := h.2.1.2; omega, rfl⟩) h.1 Fr.rf)
  rintro _ rfl
  rw [nI_1]
  have h4 := h.terms z
  have f4 : Fr (cC (cdr c)) σ (up σ 6 0 2 (nI (nt + 1))) := Fr.rf.up rfl
  have hq := h.2.2.1.2
  have hr := h.1.1.rng h.1.2.2.1
  generalize up σ 6 0 2 (nI (nt + 1)) = σ4 at h4 f4 ⊢
  refine here_s (d - 1) _ _ h4.1 ⟨_, rfl, ?_⟩
  refine val_s (d - 1) _ _ h4.1 ⟨_, rfl, ?_⟩
  refine acc_s (d - 1) 2 _ _ h4.1 (by omega) (fun w2 => ⟨_, rfl, fun _ => ?_, fun y => absurd y (by decide)⟩) (fun w2 => ⟨_, rfl, fun y => absurd rfl y, fun _ => ?_⟩)
  · have h5 := h4.at (by omega)
    rw [h5.1.dr, w2]
    refine ⟨h5.1.1.2.2.2, add_s (d - 1) 2 (tV c i) (110, tV c i, 0) _ _ h5 (by omega) (by omega) (by have := hr.2.2.1 w2; omega) (Or.inl ⟨rfl, hr.2.2.1 w2⟩) (by simp [gE]) (fun σ2 a b => ⟨rfl, hS z _ _ σ2 (Or.inl ⟨w2, rfl, rfl⟩) (Or.inl ⟨rfl, hr.2.2.1 w2⟩) a ((f4.tr upAt_fr).tr b)⟩)⟩
  refine acc_s (d - 1) 13 _ _ h4.1 (by omega) (fun w13 => ⟨_, rfl, fun y => absurd y (by decide), fun _ => ?_⟩) (fun w13 => ⟨_, rfl, fun _ => ?_, fun y => absurd rfl y⟩)
  · have h5 := h4.at (by omega)
    rw [h5.1.dr, w13, hr.2.2.2.2.2 w13]
    refine ⟨h5.1.1.2.2.2, add_s (d - 1) 13 0 (109, 0, 0) _ _ h5 (by omega) (by omega) (by omega) (Or.inr (Or.inl rfl)) (by simp [gE]) (fun σ2 a b => ⟨rfl, hS z _ _ σ2 (Or.inr (Or.inl ⟨w13, rfl, rfl⟩)) (Or.inr (Or.inl rfl)) a ((f4.tr upAt_fr).tr b)⟩)⟩
  -- the four words that want a town
  have k143 : ∀ σ', CS c σ' (i + 2) (nt + 1) q G → Fr (cC (cdr c)) σ σ' → tW c (i + 1) = 3 → ((tW c i = 14 ∨ tW c i = 17) → atX4_readTerm_143 d Q σ' (nI (tW c i)) 0 (nI (tV c (i + 1))) 0) ∧ ((tW c i = 15 ∨ tW c i = 16) → atX4_readTerm_143 d Q σ' (nI (tW c i)) 1 (nI (tV c (i + 1))) (nI (tV c (i + 2)))) := by
    intro σ' h6 f6 w3
    have hr1 := h6.1.1.rng (i := i + 1) (by have := h6.1.2.2.1; omega)
    have hv1 := hr1.2.2.2.1 w3
    have hr2 := h6.1.1.rng h6.1.2.2.1
    refine ⟨fun w => ?_, fun w => ?_⟩
    · refine wX4_readTerm_143 d Q σ' _ _ _ _ (by omega) ⟨fun _ => ?_, fun y => absurd rfl y⟩
      have e : nI (tV c (i + 1)) * 3 + 0 = nI (3 * tV c (i + 1)) := by
        rw [show (3 : Int32) = nI 3 from rfl, pk_mul, Nat.mul_comm]
        exact nI_add _ 0
      rw [h6.1.dr, e]
      rcases w with w | w
      · rw [w]
        exact ⟨h6.1.1.2.2.2, add_s (d - 1) 14 (3 * tV c (i + 1)) (112, tV c (i + 1), 0) _ _ h6 (by omega) (by omega) (by omega) (Or.inr (Or.inr (Or.inl ⟨rfl, hv1⟩))) (by simp [gE]) (fun σ2 a b => ⟨rfl, hS z _ _ σ2 (Or.inr (Or.inr (Or.inl ⟨w, w3, rfl, rfl⟩))) (Or.inr (Or.inr (Or.inl ⟨rfl, hv1⟩))) a (f6.tr b)⟩)⟩
      · rw [w]
        exact ⟨h6.1.1.2.2.2, add_s (d - 1) 17 (3 * tV c (i + 1)) (114, tV c (i + 1), 0) _ _ h6 (by omega) (by omega) (by omega) (Or.inr (Or.inr (Or.inr (Or.inl ⟨rfl, hv1⟩)))) (by simp [gE]) (fun σ2 a b => ⟨rfl, hS z _ _ σ2 (Or.inr (Or.inr (Or.inr (Or.inl ⟨w, w3, rfl, rfl⟩)))) (Or.inr (Or.inr (Or.inr (Or.inl ⟨rfl, hv1⟩)))) a (f6.tr b)⟩)⟩
    · refine wX4_readTerm_143 d Q σ' _ _ _ _ (by omega) ⟨fun y => absurd y (by decide), fun _ => ?_⟩
      refine acc_s (d - 1) 4 _ _ h6.1 (by omega) (fun w4 => ⟨_, rfl, fun _ => ?_, fun y => absurd y (by decide)⟩) (fun w4 => ⟨_, rfl, fun y => absurd rfl y, fun _ => ?_⟩)
      · have h7 := h6.at (by omega)
        have hv2 := hr2.2.2.2.2.1 w4
        have e : nI (tV c (i + 1)) * 3 + nI (tV c (i + 2)) = nI (3 * tV c (i + 1) + tV c (i + 2)) := by
          rw [show (3 : Int32) = nI 3 from rfl, pk_mul, Nat.mul_comm, nI_add]
        rw [h7.1.dr, e]
        rcases w with w | w
        · rw [w]
          exact ⟨h6.1.1.2.2.2, add_s (d - 1) 15 (3 * tV c (i + 1) + tV c (i + 2)) (115, tV c (i + 1), tV c (i + 2)) _ _ h7 (by omega) (by omega) (by omega) (Or.inr (Or.inr (Or.inr (Or.inr (Or.inl ⟨rfl, hv1, hv2⟩))))) (by simp [gE]) (fun σ2 a b => ⟨rfl, hS z _ _ σ2 (Or.inr (Or.inr (Or.inr (Or.inr (Or.inl ⟨w, w3, w4, rfl, rfl⟩))))) (Or.inr (Or.inr (Or.inr (Or.inr (Or.inl ⟨rfl, hv1, hv2⟩))))) a ((f6.tr upAt_fr).tr b)⟩)⟩
        · rw [w]
          exact ⟨h6.1.1.2.2.2, add_s (d - 1) 16 (3 * tV c (i + 1) + tV c (i + 2)) (111, tV c (i + 1), tV c (i + 2)) _ _ h7 (by omega) (by omega) (by omega) (Or.inr (Or.inr (Or.inr (Or.inr (Or.inr (Or.inl ⟨rfl, hv1, hv2⟩)))))) (by simp [gE]) (fun σ2 a b => ⟨rfl, hS z _ _ σ2 (Or.inr (Or.inr (Or.inr (Or.inr (Or.inr ⟨w, w3, w4, rfl, rfl⟩))))) (Or.inr (Or.inr (Or.inr (Or.inr (Or.inr (Or.inl ⟨rfl, hv1, hv2⟩)))))) a ((f6.tr upAt_fr).tr b)⟩)⟩
      · exact hF (i + 2) σ' (Or.inr ⟨z, Or.inr (Or.inr ⟨w, w3, w4, rfl⟩)⟩) h6.1 f6
  have k115 : (tW c i = 14 ∨ tW c i = 15 ∨ tW c i = 16 ∨ tW c i = 17) → ∀ s0 : Int32, ((tW c i = 14 ∨ tW c i = 17) ∧ s0 = 0) ∨ ((tW c i = 15 ∨ tW c i = 16) ∧ s0 = 1) → atX4_readTerm_115 d Q (upAt σ4 (i + 1)) (nI (tW c i)) s0 := by
    intro w s0 hs
    have h5 := h4.at (by omega)
    refine wX4_readTerm_115 d Q _ _ _ (by omega) (val_s (d - 1) _ _ h5.1 ⟨_, rfl, acc_s (d - 1) 3 _ _ h5.1 (by omega) (fun w3 => ⟨_, rfl, fun _ => ?_, fun y => absurd y (by decide)⟩) (fun w3 => ⟨_, rfl, fun y => absurd rfl y, fun _ => ?_⟩)⟩)
    · have h6 := h5.at (by omega)
      have k := k143 _ h6 ((f4.tr upAt_fr).tr upAt_fr) w3
      refine ⟨fun e => ?_, fun e => ?_⟩
      · rcases hs with ⟨q1, q2⟩ | ⟨q1, q2⟩
        · subst q2
          exact k.1 q1
        · rw [q2] at e
          exact absurd e (by decide)
      · rcases hs with ⟨q1, q2⟩ | ⟨q1, q2⟩
        · exact absurd q2 e
        · subst q2
          exact val_s (d - 1) _ _ h6.1 ⟨_, rfl, k.2 q1⟩
    · exact hF (i + 1) _ (Or.inr ⟨z, Or.inr (Or.inl ⟨w, w3, rfl⟩)⟩) h5.1 (f4.tr upAt_fr)
  have k76 : ∀ s0 : Int32, ((tW c i ≠ 15 ∧ tW c i ≠ 16) ∧ s0 = 0) ∨ ((tW c i = 15 ∨ tW c i = 16) ∧ s0 = 1) → atX4_readTerm_76 d Q σ4 (nI (tW c i)) s0 := by
    intro s0 hs
    have go : ∀ w, (w = 14 ∨ w = 15 ∨ w = 16 ∨ w = 17) → tW c i = w → atX4_readTerm_115 d Q (upAt σ4 (i + 1)) (nI (tW c i)) s0 := by
      intro w hw e
      refine k115 (by omega) s0 ?_
      rcases hs with ⟨q1, q2⟩ | ⟨q1, q2⟩
      · exact Or.inl ⟨by omega, q2⟩
      · exact Or.inr ⟨q1, q2⟩
    refine wX4_readTerm_76 d Q σ4 _ _ (by omega) ?_
    refine acc_s (d - 1) 14 _ _ h4.1 (by omega) (fun e => ⟨_, rfl, fun _ => go 14 (by omega) e, fun y => absurd y (by decide)⟩) (fun e14 => ⟨_, rfl, fun y => absurd rfl y, fun _ => ?_⟩)
    refine acc_s (d - 1) 17 _ _ h4.1 (by omega) (fun e => ⟨_, rfl, fun _ => go 17 (by omega) e, fun y => absurd y (by decide)⟩) (fun e17 => ⟨_, rfl, fun y => absurd rfl y, fun _ => ?_⟩)
    refine acc_s (d - 1) 15 _ _ h4.1 (by omega) (fun e => ⟨_, rfl, fun _ => go 15 (by omega) e, fun y => absurd y (by decide)⟩) (fun e15 => ⟨_, rfl, fun y => absurd rfl y, fun _ => ?_⟩)
    refine acc_s (d - 1) 16 _ _ h4.1 (by omega) (fun e => ⟨_, rfl, fun _ => go 16 (by omega) e, fun y => absurd y (by decide)⟩) (fun e16 => ⟨_, rfl, fun y => absurd rfl y, fun _ => ?_⟩)
    exact hF i σ4 (Or.inr ⟨z, Or.inl ⟨w2, w13, e14, e15, e16, e17, rfl⟩⟩) h4.1 f4
  have hw := hr.1
  refine pk_eq (tW c i) 15 (fun e => wX4_readTerm_71 d Q σ4 _ (k76 1 (Or.inr ⟨Or.inl e, rfl⟩))) (fun e => ?_)
  exact And.symm (pk_eq (tW c i) 16 (fun e' => wX4_readTerm_71 d Q σ4 _ (k76 1 (Or.inr ⟨Or.inr e', rfl⟩))) (fun e' => k76 0 (Or.inl ⟨⟨e, e'⟩, rfl⟩)))
