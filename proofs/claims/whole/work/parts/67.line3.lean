/-! a line, in the class -/
def coK (k : Nat) : Bool := Nat.beq k 73 || Nat.beq k 74 || Nat.beq k 75 || Nat.beq k 76 || Nat.beq k 77
def cCL (dr k i s : Nat) : Bool := cC dr k i s || (Nat.beq k 6 && Nat.beq s 3) || (Nat.beq k 7 && Nat.beq i dr && Nat.beq s 3) || (coK k && Nat.beq i dr)
theorem cC_L {dr k i s : Nat} (h : cCL dr k i s = false) : cC dr k i s = false := by
  unfold cCL at h
  simp only [Bool.or_eq_false_iff] at h
  exact h.1.1.1
theorem Fr.CL {dr : Nat} {σ σ2 : HS} (h : Fr (cC dr) σ σ2) : Fr (cCL dr) σ σ2 := h.mono (fun _ _ _ => cC_L)
def CLa (c : CX) (σ : HS) (l t : Nat) (I : LI) : Prop := σ.1 73 (cdr c) l = nI t ∧ σ.1 74 (cdr c) l = nI I.1 ∧ σ.1 75 (cdr c) l = nI I.2.1 ∧ σ.1 76 (cdr c) l = nI I.2.2.1 ∧ σ.1 77 (cdr c) l = nI I.2.2.2
def CLn (c : CX) (σ : HS) (nl : Nat) (st : Nat → Nat) (L : Nat → LI) : Prop := σ.1 7 (cdr c) 3 = nI nl ∧ σ.1 6 0 3 = 0 ∧ ∀ l, l < nl → CLa c σ l (st (l + 1)) (L l)
theorem coK_C {dr k i s : Nat} (hk : coK k = true) : cC dr k i s = false := by
  unfold coK at hk
  simp only [Bool.or_eq_true, Nat.beq_eq] at hk
  rcases hk with (((rfl | rfl) | rfl) | rfl) | rfl <;> rfl
theorem Fr.co {dr : Nat} {σ σ2 : HS} (h : Fr (cC dr) σ σ2) {k : Nat} (hk : coK k = true) : σ2.1 k = σ.1 k := funext fun i => funext fun s => h k i s (coK_C hk)
theorem CLn.fr {c : CX} {σ σ2 : HS} {nl : Nat} {st : Nat → Nat} {L : Nat → LI} (h : CLn c σ nl st L) (f : Fr (cC (cdr c)) σ σ2) : CLn c σ2 nl st L := by
  refine ⟨by rw [f 7 (cdr c) 3 (by simp [cC]; decide)]; exact h.1, by rw [f 6 0 3 rfl]; exact h.2.1, fun l hl => ?_⟩
  have := h.2.2 l hl
  unfold CLa at this ⊢
  rw [f.co (k := 73) rfl, f.co (k := 74) rfl, f.co (k := 75) rfl, f.co (k := 76) rfl, f.co (k := 77) rfl]
  exact this
theorem CP.al {c : CX} {σ : HS} {i : Nat} {x : Int32} (h : CP c σ i) : CP c (up σ 6 0 3 x) i := by
  obtain ⟨h1, ⟨z, z1, z2, z3, z4⟩, h3, h4, h5⟩ := h
  refine ⟨h1, ⟨z, z1, z2, by rw [up_ne (by decide)]; exact z3, fun j hj => ?_⟩, h3, by rw [up_f (by decide)]; exact h4, by rw [up_f (by decide)]; exact h5⟩
  obtain ⟨a, b, e⟩ := z4 j hj
  exact ⟨by rw [up_ne (by decide)]; exact a, by rw [up_ne (by decide)]; exact b, by rw [up_ne (by decide)]; exact e⟩
theorem CS.al {c : CX} {σ : HS} {i nt q : Nat} {G : Nat → GI} {x : Int32} (h : CS c σ i nt q G) : CS c (up σ 6 0 3 x) i nt q G := by
  obtain ⟨h1, h2, h3, h4⟩ := h
  refine ⟨h1.al, by rw [up_f (by decide)]; exact h2, by rw [up_ne (by decide)]; exact h3, fun j hj => by rw [up_ne (by decide)]; exact h4 j hj⟩
theorem CS.co {c : CX} {σ : HS} {i nt q k s : Nat} {G : Nat → GI} {x : Int32} (h : CS c σ i nt q G) (hk : coK k = true) : CS c (up σ k (cdr c) s x) i nt q G := by
  have e1 : (6 : Nat) ≠ k := fun z => by subst z; revert hk; decide
  have e2 : (8 : Nat) ≠ k := fun z => by subst z; revert hk; decide
  have e3 : (78 : Nat) ≠ k := fun z => by subst z; revert hk; decide
  have e4 : (79 : Nat) ≠ k := fun z => by subst z; revert hk; decide
  have e5 : (80 : Nat) ≠ k := fun z => by subst z; revert hk; decide
  have e6 : (7 : Nat) ≠ k := fun z => by subst z; revert hk; decide
  have e7 : (71 : Nat) ≠ k := fun z => by subst z; revert hk; decide
  obtain ⟨⟨h1, ⟨z, z1, z2, z3, z4⟩, h3, h4, h5⟩, h6, h7, h8⟩ := h
  refine ⟨⟨h1, ⟨z, z1, z2, by rw [up_ne e2]; exact z3, fun j hj => ?_⟩, h3, by rw [up_ne e1]; exact h4, by rw [up_ne e1]; exact h5⟩, by rw [up_ne e1]; exact h6, by rw [up_ne e6]; exact h7, fun j hj => by rw [up_ne e7]; exact h8 j hj⟩
  obtain ⟨a, b, e⟩ := z4 j hj
  exact ⟨by rw [up_ne e3]; exact a, by rw [up_ne e4]; exact b, by rw [up_ne e5]; exact e⟩
theorem CS.ln {c : CX} {σ : HS} {i nt q : Nat} {G : Nat → GI} {x : Int32} (h : CS c σ i nt q G) : CS c (up σ 7 (cdr c) 3 x) i nt q G := by
  obtain ⟨⟨h1, ⟨z, z1, z2, z3, z4⟩, h3, h4, h5⟩, h6, h7, h8⟩ := h
  refine ⟨⟨h1, ⟨z, z1, z2, by rw [up_ne (by decide)]; exact z3, fun j hj => ?_⟩, h3, by rw [up_ne (by decide)]; exact h4, by rw [up_ne (by decide)]; exact h5⟩, by rw [up_ne (by decide)]; exact h6, by rw [up_f (by decide)]; exact h7, fun j hj => by rw [up_ne (by decide)]; exact h8 j hj⟩
  obtain ⟨a, b, e⟩ := z4 j hj
  exact ⟨by rw [up_ne (by decide)]; exact a, by rw [up_ne (by decide)]; exact b, by rw [up_ne (by decide)]; exact e⟩
theorem cCL_co {dr k s : Nat} (hk : coK k = true) : cCL dr k dr s = true := by
  unfold cCL
  rw [hk]
  simp
theorem addLine_s {c : CX} {i nt q nl m kd a b : Nat} {G : Nat → GI} {st : Nat → Nat} {L : Nat → LI} (d : Nat) (σ : HS) (Q : Option AV → HS → Prop) (h : CS c σ i nt q G) (hl : CLn c σ nl st L) (hn : nl < 12)
    (k : ∀ σ2, CS c σ2 i nt q G → CLn c σ2 (nl + 1) (uF st (nl + 1) q) (uF L nl (m, kd, a, b)) → Fr (cCL (cdr c)) σ σ2 → Q none σ2) : MT d mX5_addLine [vR 7 (cdr c), vI (nI m), vI (nI kd), vI (nI a), vI (nI b)] σ Q := by
  have hdr := h.1.1.2.2.2
  have hln := hl.1
  have vx : vp_in (nI nl) 12 := vp_in_nI hn (by omega)
  refine wX5_addLine d _ _ _ _ _ σ Q hdr ?_
  rw [hln, h.2.2.1.1]
  refine ⟨fun _ => ⟨vx, ?_⟩, fun y => absurd (nI_lt (b := 12) hn (by omega)) y⟩
  rintro _ rfl
  rw [up_ne (show (7 : Nat) ≠ 73 by decide), hln, nI_clamp (show nl < 2 ^ 31 by omega)]
  refine ⟨vx, ?_⟩
  rintro _ rfl
  rw [up_ne (show (7 : Nat) ≠ 74 by decide), up_ne (show (7 : Nat) ≠ 73 by decide), hln, nI_clamp (show nl < 2 ^ 31 by omega)]
  refine ⟨vx, ?_⟩
  rintro _ rfl
  rw [up_ne (show (7 : Nat) ≠ 75 by decide), up_ne (show (7 : Nat) ≠ 74 by decide), up_ne (show (7 : Nat) ≠ 73 by decide), hln, nI_clamp (show nl < 2 ^ 31 by omega)]
  refine ⟨vx, ?_⟩
  rintro _ rfl
  rw [up_ne (show (7 : Nat) ≠ 76 by decide), up_ne (show (7 : Nat) ≠ 75 by decide), up_ne (show (7 : Nat) ≠ 74 by decide), up_ne (show (7 : Nat) ≠ 73 by decide), hln, nI_clamp (show nl < 2 ^ 31 by omega)]
  refine ⟨vx, ?_⟩
  rintro _ rfl _ rfl
  rw [up_ne (show (7 : Nat) ≠ 77 by decide), up_ne (show (7 : Nat) ≠ 76 by decide), up_ne (show (7 : Nat) ≠ 75 by decide), up_ne (show (7 : Nat) ≠ 74 by decide), up_ne (show (7 : Nat) ≠ 73 by decide), hln, nI_1]
  refine k _ ((((((h.co (k := 73) rfl).co (k := 74) rfl).co (k := 75) rfl).co (k := 76) rfl).co (k := 77) rfl).ln) ⟨up_same, ?_, fun l hl' => ?_⟩ ((((((Fr.rf.up (cCL_co rfl)).up (cCL_co rfl)).up (cCL_co rfl)).up (cCL_co rfl)).up (cCL_co rfl)).up (by simp [cCL]))
  · rw [up_ne (by decide), up_ne (by decide), up_ne (by decide), up_ne (by decide), up_ne (by decide), up_ne (by decide)]
    exact hl.2.1
  · by_cases z : l = nl
    · subst z
      rw [uF_s, uF_s]
      unfold CLa
      refine ⟨?_, ?_, ?_, ?_, ?_⟩
      · rw [up_ne (show (73 : Nat) ≠ 7 by decide), up_ne (show (73 : Nat) ≠ 77 by decide), up_ne (show (73 : Nat) ≠ 76 by decide), up_ne (show (73 : Nat) ≠ 75 by decide), up_ne (show (73 : Nat) ≠ 74 by decide), up_same]
      · rw [up_ne (show (74 : Nat) ≠ 7 by decide), up_ne (show (74 : Nat) ≠ 77 by decide), up_ne (show (74 : Nat) ≠ 76 by decide), up_ne (show (74 : Nat) ≠ 75 by decide), up_same]
      · rw [up_ne (show (75 : Nat) ≠ 7 by decide), up_ne (show (75 : Nat) ≠ 77 by decide), up_ne (show (75 : Nat) ≠ 76 by decide), up_same]
      · rw [up_ne (show (76 : Nat) ≠ 7 by decide), up_ne (show (76 : Nat) ≠ 77 by decide), up_same]
      · rw [up_ne (show (77 : Nat) ≠ 7 by decide), up_same]
    · rw [uF_n (by omega), uF_n z]
      have := hl.2.2 l (by omega)
      unfold CLa at this ⊢
      refine ⟨?_, ?_, ?_, ?_, ?_⟩
      · rw [up_ne (show (73 : Nat) ≠ 7 by decide), up_ne (show (73 : Nat) ≠ 77 by decide), up_ne (show (73 : Nat) ≠ 76 by decide), up_ne (show (73 : Nat) ≠ 75 by decide), up_ne (show (73 : Nat) ≠ 74 by decide), up_f z]; exact this.1
      · rw [up_ne (show (74 : Nat) ≠ 7 by decide), up_ne (show (74 : Nat) ≠ 77 by decide), up_ne (show (74 : Nat) ≠ 76 by decide), up_ne (show (74 : Nat) ≠ 75 by decide), up_f z, up_ne (show (74 : Nat) ≠ 73 by decide)]; exact this.2.1
      · rw [up_ne (show (75 : Nat) ≠ 7 by decide), up_ne (show (75 : Nat) ≠ 77 by decide), up_ne (show (75 : Nat) ≠ 76 by decide), up_f z, up_ne (show (75 : Nat) ≠ 74 by decide), up_ne (show (75 : Nat) ≠ 73 by decide)]; exact this.2.2.1
      · rw [up_ne (show (76 : Nat) ≠ 7 by decide), up_ne (show (76 : Nat) ≠ 77 by decide), up_f z, up_ne (show (76 : Nat) ≠ 75 by decide), up_ne (show (76 : Nat) ≠ 74 by decide), up_ne (show (76 : Nat) ≠ 73 by decide)]; exact this.2.2.2.1
      · rw [up_ne (show (77 : Nat) ≠ 7 by decide), up_f z, up_ne (show (77 : Nat) ≠ 76 by decide), up_ne (show (77 : Nat) ≠ 75 by decide), up_ne (show (77 : Nat) ≠ 74 by decide), up_ne (show (77 : Nat) ≠ 73 by decide)]; exact this.2.2.2.2
theorem c19 {c : CX} {i nt q nl : Nat} {G : Nat → GI} {st : Nat → Nat} {L : Nat → LI} (d : Nat) (σ : HS) (Q : Option AV → HS → Prop) (hd : 2 ≤ d) (h : CS c σ i nt q G) (hl : CLn c σ nl st L) (hn : nl < 12)
    (kOK : ∀ I, LnS c i I → ∀ σ2, CS c σ2 (i + 8) nt q G → CLn c σ2 (nl + 1) (uF st (nl + 1) q) (uF L nl I) → Fr (cCL (cdr c)) σ σ2 → Q (some (vI 1)) σ2)
    (kF : ∀ j al, LnF c i j al → ∀ σ2, CP c σ2 j → σ2.1 6 0 3 = nI al → Fr (cCL (cdr c)) σ σ2 → Q (some (vI 0)) σ2) : atX4_readLine_19 d Q σ := by
  have h0 := h
  have l0 := hl
  have f0 : Fr (cCL (cdr c)) σ σ := Fr.rf
  refine wX4_readLine_19 d Q σ (by omega) (acc_s (d - 1) 7 _ _ h0.1 (by omega) (fun e0 => ⟨_, rfl, fun _ => ?_, fun y => absurd y (by decide)⟩) (fun n0 => ⟨_, rfl, fun y => absurd rfl y, fun _ => kF (i) 0 (Or.inl ⟨n0, rfl, rfl⟩) _ h0.1 l0.2.1 f0⟩))
  have h1 : CS c _ (i + 1) nt q G := h0.at (by omega)
  have l1 := l0.fr (upAt_fr (i := i + 1))
  have f1 := f0.tr (upAt_fr (i := i + 1)).CL
  generalize upAt σ (i + 1) = σ1 at h1 l1 f1 ⊢
  refine val_s (d - 1) _ _ h1.1 ⟨_, rfl, acc_s (d - 1) 2 _ _ h1.1 (by omega) (fun e1 => ⟨_, rfl, fun _ => ?_, fun y => absurd y (by decide)⟩) (fun n1 => ⟨_, rfl, fun y => absurd rfl y, fun _ => kF (i + 1) 0 (Or.inr ⟨e0, Or.inl ⟨n1, rfl, rfl⟩⟩) _ h1.1 l1.2.1 f1⟩)⟩
  have h2 : CS c _ (i + 2) nt q G := h1.at (by omega)
  have l2 := l1.fr (upAt_fr (i := i + 1 + 1))
  have f2 := f1.tr (upAt_fr (i := i + 1 + 1)).CL
  generalize upAt σ1 (i + 1 + 1) = σ2 at h2 l2 f2 ⊢
  refine val_s (d - 1) _ _ h2.1 ⟨_, rfl, acc_s (d - 1) 4 _ _ h2.1 (by omega) (fun e2 => ⟨_, rfl, fun y => absurd y (by decide), fun _ => ?_⟩) (fun n2 => ⟨_, rfl, fun _ => kF (i + 2) 0 (Or.inr ⟨e0, Or.inr ⟨e1, Or.inl ⟨n2, rfl, rfl⟩⟩⟩) _ h2.1 l2.2.1 f2, fun y => absurd rfl y⟩)⟩
  have h3 : CS c _ (i + 3) nt q G := h2.at (by omega)
  have l3 := l2.fr (upAt_fr (i := i + 2 + 1))
  have f3 := f2.tr (upAt_fr (i := i + 2 + 1)).CL
  generalize upAt σ2 (i + 2 + 1) = σ3 at h3 l3 f3 ⊢
  refine acc_s (d - 1) 8 _ _ h3.1 (by omega) (fun e3 => ⟨_, rfl, fun _ => ?_, fun y => absurd y (by decide)⟩) (fun n3 => ⟨_, rfl, fun y => absurd rfl y, fun _ => kF (i + 3) 0 (Or.inr ⟨e0, Or.inr ⟨e1, Or.inr ⟨e2, Or.inl ⟨n3, rfl, rfl⟩⟩⟩⟩) _ h3.1 l3.2.1 f3⟩)
  have h4 : CS c _ (i + 4) nt q G := h3.at (by omega)
  have l4 := l3.fr (upAt_fr (i := i + 3 + 1))
  have f4 := f3.tr (upAt_fr (i := i + 3 + 1)).CL
  generalize upAt σ3 (i + 3 + 1) = σ4 at h4 l4 f4 ⊢
  refine val_s (d - 1) _ _ h4.1 ⟨_, rfl, acc_s (d - 1) 3 _ _ h4.1 (by omega) (fun e4 => ⟨_, rfl, fun y => absurd y (by decide), fun _ => ?_⟩) (fun n4 => ⟨_, rfl, fun _ => kF (i + 4) 0 (Or.inr ⟨e0, Or.inr ⟨e1, Or.inr ⟨e2, Or.inr ⟨e3, Or.inl ⟨n4, rfl, rfl⟩⟩⟩⟩⟩) _ h4.1 l4.2.1 f4, fun y => absurd rfl y⟩)⟩
  have h5 : CS c _ (i + 5) nt q G := h4.at (by omega)
  have l5 := l4.fr (upAt_fr (i := i + 4 + 1))
  have f5 := f4.tr (upAt_fr (i := i + 4 + 1)).CL
  generalize upAt σ4 (i + 4 + 1) = σ5 at h5 l5 f5 ⊢
  refine acc_s (d - 1) 9 _ _ h5.1 (by omega) (fun e5 => ⟨_, rfl, fun _ => ?_, fun y => absurd y (by decide)⟩) (fun n5 => ⟨_, rfl, fun y => absurd rfl y, fun _ => kF (i + 5) 0 (Or.inr ⟨e0, Or.inr ⟨e1, Or.inr ⟨e2, Or.inr ⟨e3, Or.inr ⟨e4, Or.inl ⟨n5, rfl, rfl⟩⟩⟩⟩⟩⟩) _ h5.1 l5.2.1 f5⟩)
  have h6 : CS c _ (i + 6) nt q G := h5.at (by omega)
  have l6 := l5.fr (upAt_fr (i := i + 5 + 1))
  have f6 := f5.tr (upAt_fr (i := i + 5 + 1)).CL
  generalize upAt σ5 (i + 5 + 1) = σ6 at h6 l6 f6 ⊢
  have r6 := h6.1.1.rng h6.1.2.2.1
  have r4 := h6.1.1.rng (i := i + 4) (by have := h6.1.2.2.1; omega)
  have k4 := r4.2.2.2.1 e4
  refine val_s (d - 1) _ _ h6.1 ⟨_, rfl, here_s (d - 1) _ _ h6.1 ⟨_, rfl, ?_⟩⟩
  have go : (tW c (i + 6) = 3 → tV c (i + 6) ≠ tV c (i + 4)) → atX4_readLine_118 d Q σ6 (nI (tV c (i + 1))) (nI (tV c (i + 2))) (nI (tV c (i + 4))) (nI (tV c (i + 6))) := by
    intro hne
    refine wX4_readLine_118 d Q σ6 _ _ _ _ (wX4_readLine_119 d Q σ6 _ _ _ _ _ (by omega) ⟨nb_0, ?_⟩)
    rintro _ rfl
    have h7 := h6.al (x := 0)
    have f7 := f6.up (k := 6) (i := 0) (s := 3) (x := 0) (by simp [cCL])
    have l7 : CLn c (up σ6 6 0 3 0) nl st L := ⟨by rw [up_ne (by decide)]; exact l6.1, up_same, fun l hl' => by
      have := l6.2.2 l hl'
      unfold CLa at this ⊢
      simp only [up_ne (show (73 : Nat) ≠ 6 by decide), up_ne (show (74 : Nat) ≠ 6 by decide), up_ne (show (75 : Nat) ≠ 6 by decide), up_ne (show (76 : Nat) ≠ 6 by decide), up_ne (show (77 : Nat) ≠ 6 by decide)]
      exact this⟩
    rw [up_same]
    generalize up σ6 6 0 3 0 = σ7 at h7 f7 l7 ⊢
    refine ⟨fun y => absurd rfl y, fun _ => ?_⟩
    refine acc_s (d - 1) 3 _ _ h7.1 (by omega) (fun e6 => ⟨_, rfl, fun y => absurd y (by decide), fun _ => ?_⟩) (fun n6 => ⟨_, rfl, fun _ => kF (i + 6) 0 ?_ _ h7.1 l7.2.1 f7, fun y => absurd rfl y⟩)
    · have h8 : CS c _ (i + 7) nt q G := h7.at (by omega)
      have l8 := l7.fr (upAt_fr (i := i + 6 + 1))
      have f8 := f7.tr (upAt_fr (i := i + 6 + 1)).CL
      generalize upAt σ7 (i + 6 + 1) = σ8 at h8 l8 f8 ⊢
      refine acc_s (d - 1) 59 _ _ h8.1 (by omega) (fun e7 => ⟨_, rfl, fun _ => ?_, fun y => absurd y (by decide)⟩) (fun n7 => ⟨_, rfl, fun y => absurd rfl y, fun _ => kF (i + 7) 0 ?_ _ h8.1 l8.2.1 f8⟩)
      · have h9 : CS c _ (i + 8) nt q G := h8.at (by omega)
        have l9 := l8.fr (upAt_fr (i := i + 7 + 1))
        have f9 := f8.tr (upAt_fr (i := i + 7 + 1)).CL
        generalize upAt σ8 (i + 7 + 1) = σ9 at h9 l9 f9 ⊢
        rw [h9.1.dr]
        refine ⟨h9.1.1.2.2.2, addLine_s (d - 1) σ9 _ h9 l9 hn (fun σA hA lA fA => ⟨rfl, kOK _ ⟨e0, e1, e2, e3, e4, e5, e6, hne e6, e7, rfl⟩ σA hA lA (f9.tr fA)⟩)⟩
      · have := hne e6
        have n7' : tW c (i + 7) ≠ 59 := n7
        unfold LnF
        omega
    · unfold LnF
      omega
  refine And.symm (pk_eq (tW c (i + 6)) 3 (fun e6 => ?_) (fun e6 => go (fun z => absurd z e6)))
  have k6 := r6.2.2.2.1 e6
  refine And.symm (pk_eq (tV c (i + 6)) (tV c (i + 4)) (fun e => ?_) (fun e => go (fun _ => e)))
  refine wX4_readLine_119 d Q σ6 _ _ _ _ _ (by omega) ⟨nb_1, ?_⟩
  rintro _ rfl
  rw [up_same]
  refine ⟨fun _ => kF (i + 6) 1 ?_ _ h6.1.al up_same (f6.up (by simp [cCL])), fun y => absurd y (by decide)⟩
  unfold LnF
  omega
theorem LnF.al {c : CX} {i j al : Nat} (s : LnF c i j al) : al = 0 ∨ (al = 1 ∧ tW c j = 3) := by
  have : al = 0 ∨ (al = 1 ∧ j = i + 6 ∧ tW c (i + 6) = 3) := by
    unfold LnF at s
    omega
  rcases this with h | ⟨h1, rfl, h3⟩
  · exact Or.inl h
  · exact Or.inr ⟨h1, h3⟩
def LIok (I : LI) : Prop := I.1 ≤ 999999 ∧ I.2.1 < 3 ∧ I.2.2.1 < 8 ∧ I.2.2.2 < 8 ∧ I.2.2.1 ≠ I.2.2.2
theorem LnS.ok {c : CX} {i : Nat} {I : LI} (h : CXok c) (hi : i + 8 ≤ ck c) (s : LnS c i I) : LIok I := by
  obtain ⟨a1, a2, a3, a4, a5, a6, a7, a8, a9, rfl⟩ := s
  have q1 := (h.rng (i := i + 1) (by omega)).2.2.1 a2
  have q2 := (h.rng (i := i + 2) (by omega)).2.2.2.2.1 a3
  have q4 := (h.rng (i := i + 4) (by omega)).2.2.2.1 a5
  have q6 := (h.rng (i := i + 6) (by omega)).2.2.2.1 a7
  exact ⟨q1, q2, q4, q6, fun z => a8 z.symm⟩
def LiI (c : CX) (i nt q : Nat) (G : Nat → GI) (nl : Nat) (st : Nat → Nat) (L : Nat → LI) (j nt2 q2 : Nat) (G2 : Nat → GI) (I : LI) : Prop := Ex G q G2 ∧ q ≤ q2 ∧ (∃ hh, hh ≤ 1 ∧ HG G2 q q2 0 hh) ∧ LIok I ∧ RLi c i nt q G nl st L j nt2 q2 G2 (uF st (nl + 1) q2) (uF L nl I)
theorem line_c {c : CX} {i nt q nl : Nat} {G : Nat → GI} {st : Nat → Nat} {L : Nat → LI} (d : Nat) (σ : HS) (Q : Option AV → HS → Prop) (hd : 24 ≤ d) (h : CS c σ i nt q G) (hl : CLn c σ nl st L) (hn : nl < 12) (hq : st nl = q)
    (hS : ∀ j nt2 q2 G2 I σ2, CS c σ2 j nt2 q2 G2 → CLn c σ2 (nl + 1) (uF st (nl + 1) q2) (uF L nl I) → Fr (cCL (cdr c)) σ σ2 → LiI c i nt q G nl st L j nt2 q2 G2 I → Q (some (vI 1)) σ2)
    (hF : ∀ j al σ2, CP c σ2 j → σ2.1 6 0 3 = nI al → (al = 0 ∨ (al = 1 ∧ tW c j = 3)) → Fr (cCL (cdr c)) σ σ2 → RLiF c i nt q G nl st L j al → Q (some (vI 0)) σ2) : MT d mX4_readLine [vR 6 0] σ Q := by
  refine wX4_readLine d σ Q (by omega) (acc_s (d - 1) 6 _ _ h.1 (by omega) (fun w => ⟨_, rfl, fun y => absurd y (by decide), fun _ => ?_⟩) (fun w => ⟨_, rfl, fun _ => ?_, fun y => absurd rfl y⟩))
  · have h1 := h.at (by omega)
    have l1 := hl.fr (upAt_fr (i := i + 1))
    refine c2_all c (d - 1) _ _ (i + 1) nt q G (by omega) h1 (fun j nt2 q2 G2 σ2 c2 f2 I2 => ⟨_, rfl, fun _ => ?_, fun y => absurd y (by decide)⟩) (fun j σ2 c2 f2 r2 => ⟨_, rfl, fun y => absurd rfl y, fun _ => ?_⟩)
    · obtain ⟨e2, t2, q02, b2, g2, w2, r2⟩ := I2
      have r := rex_of w2 r2
      refine c19 d σ2 Q (by omega) c2 (l1.fr f2) hn (fun I s σ3 c3 l3 f3 => ?_) (fun j2 al s σ3 c3 a3 f3 => ?_)
      · exact hS (j + 8) nt2 q2 G2 I σ3 c3 l3 (((upAt_fr (i := i + 1)).tr f2).CL.tr f3) ⟨e2, q02, ⟨1, by omega, g2 0 (by omega)⟩, s.ok c3.1.1 c3.1.2.2.1, rl_wS hn hq w r s⟩
      · exact hF j2 al σ3 c3 a3 s.al (((upAt_fr (i := i + 1)).tr f2).CL.tr f3) (rl_wF hn hq w r s)
    · have a2 : σ2.1 6 0 3 = nI 0 := (l1.fr f2).2.1
      exact hF j 0 σ2 c2 a2 (Or.inl rfl) (((upAt_fr (i := i + 1)).tr f2).CL) (rl_wE hn hq w c2.2.2.1 (rexF_of r2))
  · refine c19 d σ Q (by omega) h hl hn (fun I s σ3 c3 l3 f3 => ?_) (fun j2 al s σ3 c3 a3 f3 => ?_)
    · exact hS (i + 8) nt q G I σ3 c3 l3 f3 ⟨Ex.rf, Nat.le_refl _, ⟨0, by omega, HG.rf⟩, s.ok c3.1.1 c3.1.2.2.1, rl_S hn hq s⟩
    · exact hF j2 al σ3 c3 a3 s.al f3 (rl_F hn hq w s)
