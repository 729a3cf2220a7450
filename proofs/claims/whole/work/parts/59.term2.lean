theorem RS.terms {c : CX} {σ : HS} {i nt q : Nat} {G : Nat → GI} (h : RS c σ i nt q G) (ht : nt < 80) : RS c (up σ 0 0 33 (nI (nt + 1))) i (nt + 1) q G := by
  obtain ⟨h1, h2, h3, h4, h5, h6, h7, h8, h9⟩ := h
  refine ⟨h1, h2.fr (c := cT 0) (Fr.rf.up rfl) rfl (fun _ => rfl), h3, ?_, ⟨up_same, by omega⟩, ?_, ?_, ?_, fun j hj => ?_⟩
  · unfold RTk
    rw [up_f (show (15 : Nat) ≠ 33 by decide), up_f (show (16 : Nat) ≠ 33 by decide), up_f (show (17 : Nat) ≠ 33 by decide), up_f (show (18 : Nat) ≠ 33 by decide), up_2]
    exact h4
  · rw [up_f (by decide)]; exact h6
  · rw [up_f (show (13 : Nat) ≠ 33 by decide), up_f (show (14 : Nat) ≠ 33 by decide)]; exact h7
  · rw [up_f (by decide)]; exact h8
  · exact (h9 j hj).fr (by rw [up_ne (by decide)]) (by rw [up_ne (by decide)]) (by rw [up_ne (by decide)])
theorem RS.num {c : CX} {σ : HS} {i nt q : Nat} {G : Nat → GI} (h : RS c σ i nt q G) (hw : tW c i = 2) : σ.1 0 0 18 = nI (tV c i) := by
  rcases h.tk.2.2 with ⟨h1, h2⟩ | ⟨h1, h2⟩ | ⟨h1, h2, h3⟩ | ⟨h1, h2, h3⟩ | ⟨h1, h1', h2, _⟩ | ⟨h1, h2, h3⟩
  · omega
  · omega
  · exact h3
  · exact h3
  · omega
  · omega
theorem term_r {c : CX} {i nt q : Nat} {G : Nat → GI} (d : Nat) (σ : HS) (Q : Option AV → HS → Prop) (hd : 6 ≤ d) (h : RS c σ i nt q G) (hq : q < 900)
    (hS : nt < 80 → ∀ j g σ2, TmS c i j g → RS c σ2 j (nt + 1) (q + 1) (uF G q g) → Fr (cT (crb c)) σ σ2 → Q none σ2)
    (hF : ∀ j σ2, TmF c i nt j → RF c σ2 j → Fr (cT (crb c)) σ σ2 → Q none σ2) : MT d mX11_term [vR 0 0] σ Q := by
  have ht := h.tk
  have hnt := h.2.2.2.2.1
  have hw := h.rng.1
  -- a wrong token
  have bad : ∀ x1 x2, TmF c i nt i → atX11_term_87 d Q σ x1 x2 := fun x1 x2 hb => wX11_term_87 d Q σ _ _ (by omega) (wrong_s (d - 1) σ _ (by omega) h (fun σ2 a b => ⟨rfl, wX11_term_91 d Q σ2 _ _ (by omega) ⟨fun z => absurd z a.ne, fun _ => hF i σ2 hb a b⟩⟩))
  -- from the step on
  have k210 : ∀ σ' x1 x3 x4 j (g : GI), nt < 80 → x3 = nI g.1 → RS c σ' j (nt + 1) q G → Fr (cT (crb c)) σ σ' → ((g.1 = 110 ∨ g.1 = 112 ∨ g.1 = 114 ∨ g.1 = 115 ∨ g.1 = 111) → x4 = nI g.2.1) → (x1 = 0 → (g.1 ≠ 115 ∧ g.1 ≠ 111) ∧ TmS c i j g) → (¬ x1 = 0 → tW c j = 4 → g.2.2 = tV c j ∧ TmS c i (j + 1) g) → (¬ x1 = 0 → tW c j ≠ 4 → TmF c i nt j) → atX11_term_210 d Q σ' x1 x3 x4 := by
    intro σ' x1 x3 x4 j g hn e3 h' f' e4 c0 c1 c2
    subst e3
    refine wX11_term_210 d Q σ' _ _ _ (by omega) ⟨fun z => ?_, fun z => ?_⟩
    · rintro _ rfl
      refine ⟨fun y => absurd h'.fk y, fun _ => step_s (d - 1) g _ _ σ' _ h' hq e4 (fun y => by have := (c0 z).1; omega) (fun σ2 a b => ⟨rfl, hS hn j g σ2 (c0 z).2 a (f'.tr b)⟩)⟩
    · refine aKind_s (d - 1) σ' _ (by omega) h' (fun w4 σ2 a b => ⟨_, rfl, fun y => absurd a.fk y, fun _ => ?_⟩) (fun w4 x σ2 a b => ⟨_, rfl, fun _ => hF j σ2 (c2 z w4) a (f'.tr b), fun y => absurd y a.ne⟩)
      exact step_s (d - 1) g _ _ σ2 _ a hq e4 (fun _ => by rw [(c1 z w4).1]) (fun σ3 a3 b3 => ⟨rfl, hS hn (j + 1) g σ3 (c1 z w4).2 a3 ((f'.tr b.NT).tr b3)⟩)
  have k184 : ∀ σ' (y1 y2 g1 : Nat), nt < 80 → RS c σ' i (nt + 1) q G → Fr (cT (crb c)) σ σ' → ((g1 = 110 ∧ tW c i = 2 ∧ y1 = 0 ∧ y2 = 0) ∨ (g1 = 109 ∧ tW c i = 13 ∧ y1 = 0 ∧ y2 = 0) ∨ (g1 = 112 ∧ tW c i = 14 ∧ y1 = 0 ∧ y2 = 1) ∨ (g1 = 114 ∧ tW c i = 17 ∧ y1 = 0 ∧ y2 = 1) ∨ (g1 = 115 ∧ tW c i = 15 ∧ y1 = 1 ∧ y2 = 0) ∨ (g1 = 111 ∧ tW c i = 16 ∧ y1 = 1 ∧ y2 = 0)) → atX11_term_184 d Q σ' (nI y1) (nI y2) (nI g1) := by
    intro σ' y1 y2 g1 hn h' f' hc
    have w2 : 2 ≤ tW c i := by omega
    refine wX11_term_184 d Q σ' _ _ _ (by omega) ?_
    rintro _ rfl
    refine next_s (d - 1) σ' _ (by omega) h' w2 (fun σ2 a b => ⟨rfl, ?_⟩)
    have f2 := f'.tr (b.NT (rb := crb c))
    -- with a town
    have town : ∀ x1 : Int32, ((g1 = 112 ∧ tW c i = 14 ∧ x1 = 0) ∨ (g1 = 114 ∧ tW c i = 17 ∧ x1 = 0) ∨ (g1 = 115 ∧ tW c i = 15 ∧ x1 = 1) ∨ (g1 = 111 ∧ tW c i = 16 ∧ x1 = 1)) → atX11_term_203 d Q σ2 x1 (nI g1) := by
      intro x1 hc2
      refine wX11_term_203 d Q σ2 _ _ (by omega) (aNum_s (d - 1) 3 σ2 _ (by omega) a (Or.inr rfl) (fun w3 σ3 a3 b3 => ⟨_, rfl, ?_⟩) (fun w3 x σ3 a3 b3 => ⟨_, rfl, ?_⟩))
      · have f3 := f2.tr (b3.NT (rb := crb c))
        rcases hc2 with ⟨e1, e2, e3⟩ | ⟨e1, e2, e3⟩ | ⟨e1, e2, e3⟩ | ⟨e1, e2, e3⟩
        · subst e1
          exact k210 σ3 x1 _ _ (i + 1 + 1) (112, tV c (i + 1), 0) hn rfl a3 f3 (fun _ => rfl) (fun z => ⟨⟨by show (112 : Nat) ≠ 115; decide, by show (112 : Nat) ≠ 111; decide⟩, Or.inr (Or.inr (Or.inl ⟨e2, w3, rfl, rfl⟩))⟩) (fun z => absurd e3 z) (fun z => absurd e3 z)
        · subst e1
          exact k210 σ3 x1 _ _ (i + 1 + 1) (114, tV c (i + 1), 0) hn rfl a3 f3 (fun _ => rfl) (fun z => ⟨⟨by show (114 : Nat) ≠ 115; decide, by show (114 : Nat) ≠ 111; decide⟩, Or.inr (Or.inr (Or.inr (Or.inl ⟨e2, w3, rfl, rfl⟩)))⟩) (fun z => absurd e3 z) (fun z => absurd e3 z)
        · subst e1
          have e0 : ¬ x1 = 0 := by rw [e3]; decide
          exact k210 σ3 x1 _ _ (i + 1 + 1) (115, tV c (i + 1), tV c (i + 2)) hn rfl a3 f3 (fun _ => rfl) (fun z => absurd z e0) (fun _ y => ⟨rfl, Or.inr (Or.inr (Or.inr (Or.inr (Or.inl ⟨e2, w3, y, rfl, rfl⟩))))⟩) (fun _ y => Or.inr ⟨hn, Or.inr (Or.inr ⟨Or.inl e2, w3, y, rfl⟩)⟩)
        · subst e1
          have e0 : ¬ x1 = 0 := by rw [e3]; decide
          exact k210 σ3 x1 _ _ (i + 1 + 1) (111, tV c (i + 1), tV c (i + 2)) hn rfl a3 f3 (fun _ => rfl) (fun z => absurd z e0) (fun _ y => ⟨rfl, Or.inr (Or.inr (Or.inr (Or.inr (Or.inr ⟨e2, w3, y, rfl, rfl⟩))))⟩) (fun _ y => Or.inr ⟨hn, Or.inr (Or.inr ⟨Or.inr e2, w3, y, rfl⟩)⟩)
      · have fin := hF (i + 1) σ3 (Or.inr ⟨hn, Or.inr (Or.inl ⟨by omega, w3, rfl⟩)⟩) a3 (f2.tr b3)
        refine wX11_term_210 d Q σ3 _ _ _ (by omega) ⟨fun z => ?_, fun z => ?_⟩
        · rintro _ rfl
          exact ⟨fun _ => fin, fun y => absurd y a3.ne⟩
        · exact aKind_F (d - 1) σ3 _ (by omega) a3.ne (fun y => ⟨_, rfl, fun _ => fin, fun y => absurd y a3.ne⟩)
    rcases hc with ⟨e1, e2, e3, e4⟩ | ⟨e1, e2, e3, e4⟩ | ⟨e1, e2, e3, e4⟩ | ⟨e1, e2, e3, e4⟩ | ⟨e1, e2, e3, e4⟩ | ⟨e1, e2, e3, e4⟩
    · subst e3 e4
      refine ⟨fun z => absurd rfl z, fun _ => ⟨fun _ => ?_, fun z => absurd rfl z⟩⟩
      subst e1
      exact k210 σ2 _ _ _ (i + 1) (110, tV c i, 0) hn rfl a f2 (fun _ => h'.num e2) (fun z => ⟨⟨by show (110 : Nat) ≠ 115; decide, by show (110 : Nat) ≠ 111; decide⟩, Or.inl ⟨e2, rfl, rfl⟩⟩) (fun z => absurd rfl z) (fun z => absurd rfl z)
    · subst e3 e4
      refine ⟨fun z => absurd rfl z, fun _ => ⟨fun _ => ?_, fun z => absurd rfl z⟩⟩
      subst e1
      exact k210 σ2 _ _ _ (i + 1) (109, 0, 0) hn rfl a f2 (fun y => absurd y (by decide)) (fun z => ⟨by decide, Or.inr (Or.inl ⟨e2, rfl, rfl⟩)⟩) (fun z => absurd rfl z) (fun z => absurd rfl z)
    · subst e3 e4
      have t := town 0 (Or.inl ⟨e1, e2, rfl⟩)
      exact ⟨fun _ => t, fun z => absurd z (by decide)⟩
    · subst e3 e4
      have t := town 0 (Or.inr (Or.inl ⟨e1, e2, rfl⟩))
      exact ⟨fun _ => t, fun z => absurd z (by decide)⟩
    · subst e3 e4
      have t := town 1 (Or.inr (Or.inr (Or.inl ⟨e1, e2, rfl⟩)))
      exact ⟨fun _ => t, fun _ => ⟨fun z => absurd z (by decide), fun _ => t⟩⟩
    · subst e3 e4
      have t := town 1 (Or.inr (Or.inr (Or.inr ⟨e1, e2, rfl⟩)))
      exact ⟨fun _ => t, fun _ => ⟨fun z => absurd z (by decide), fun _ => t⟩⟩
  -- a word that may begin a term
  have k78 : ∀ x1 x2 : Nat, ((tW c i = 2 ∧ x1 = 0 ∧ x2 = 0) ∨ (tW c i = 13 ∧ x1 = 0 ∧ x2 = 0) ∨ (tW c i = 14 ∧ x1 = 0 ∧ x2 = 1) ∨ (tW c i = 17 ∧ x1 = 0 ∧ x2 = 1) ∨ (tW c i = 15 ∧ x1 = 1 ∧ x2 = 0) ∨ (tW c i = 16 ∧ x1 = 1 ∧ x2 = 0)) → atX11_term_78 d Q σ (nI x1) (nI x2) := by
    intro x1 x2 hc
    refine wX11_term_78 d Q σ _ _ ?_
    rw [hnt.1]
    refine And.symm (pk_eq nt 80 (fun z => bad _ _ (Or.inl ⟨z, rfl⟩)) (fun z => ?_))
    have hn : nt < 80 := by omega
    refine wX11_term_91 d Q σ _ _ (by omega) ⟨fun _ => ?_, fun y => absurd h.fk y⟩
    rintro _ rfl
    rw [hnt.1, nI_1]
    have h' := h.terms hn
    have f' : Fr (cT (crb c)) σ (up σ 0 0 33 (nI (nt + 1))) := Fr.rf.up rfl
    have t' := h'.tk
    generalize up σ 0 0 33 (nI (nt + 1)) = σ' at h' f' t' ⊢
    rw [t'.tok.2.2.1, t'.w13, t'.w14, t'.w15, t'.w16]
    rcases hc with ⟨e1, e2, e3⟩ | ⟨e1, e2, e3⟩ | ⟨e1, e2, e3⟩ | ⟨e1, e2, e3⟩ | ⟨e1, e2, e3⟩ | ⟨e1, e2, e3⟩
    · exact ⟨fun z => absurd e1 z, fun _ => k184 σ' x1 x2 110 hn h' f' (Or.inl ⟨rfl, e1, e2, e3⟩)⟩
    · exact ⟨fun _ => ⟨fun z => absurd e1 z, fun _ => k184 σ' x1 x2 109 hn h' f' (Or.inr (Or.inl ⟨rfl, e1, e2, e3⟩))⟩, fun z => absurd (e1.symm.trans z) (by decide)⟩
    · exact ⟨fun _ => ⟨fun _ => ⟨fun z => absurd e1 z, fun _ => k184 σ' x1 x2 112 hn h' f' (Or.inr (Or.inr (Or.inl ⟨rfl, e1, e2, e3⟩)))⟩, fun z => absurd (e1.symm.trans z) (by decide)⟩, fun z => absurd (e1.symm.trans z) (by decide)⟩
    · exact ⟨fun _ => ⟨fun _ => ⟨fun _ => ⟨fun _ => ⟨fun _ => k184 σ' x1 x2 114 hn h' f' (Or.inr (Or.inr (Or.inr (Or.inl ⟨rfl, e1, e2, e3⟩)))), fun z => absurd (e1.symm.trans z) (by decide)⟩, fun z => absurd (e1.symm.trans z) (by decide)⟩, fun z => absurd (e1.symm.trans z) (by decide)⟩, fun z => absurd (e1.symm.trans z) (by decide)⟩, fun z => absurd (e1.symm.trans z) (by decide)⟩
    · exact ⟨fun _ => ⟨fun _ => ⟨fun _ => ⟨fun z => absurd e1 z, fun _ => k184 σ' x1 x2 115 hn h' f' (Or.inr (Or.inr (Or.inr (Or.inr (Or.inl ⟨rfl, e1, e2, e3⟩)))))⟩, fun z => absurd (e1.symm.trans z) (by decide)⟩, fun z => absurd (e1.symm.trans z) (by decide)⟩, fun z => absurd (e1.symm.trans z) (by decide)⟩
    · exact ⟨fun _ => ⟨fun _ => ⟨fun _ => ⟨fun _ => ⟨fun z => absurd e1 z, fun _ => k184 σ' x1 x2 111 hn h' f' (Or.inr (Or.inr (Or.inr (Or.inr (Or.inr (⟨rfl, e1, e2, e3⟩))))))⟩, fun z => absurd (e1.symm.trans z) (by decide)⟩, fun z => absurd (e1.symm.trans z) (by decide)⟩, fun z => absurd (e1.symm.trans z) (by decide)⟩, fun z => absurd (e1.symm.trans z) (by decide)⟩
  have k51 : ∀ x1 s0 : Nat, ((tW c i ≠ 15 ∧ tW c i ≠ 16 ∧ x1 = 0) ∨ ((tW c i = 15 ∨ tW c i = 16) ∧ x1 = 1)) → ((tW c i ≠ 14 ∧ tW c i ≠ 17 ∧ s0 = 0) ∨ ((tW c i = 14 ∨ tW c i = 17) ∧ s0 = 1)) → atX11_term_51 d Q σ (nI x1) (nI s0) := by
    intro x1 s0 hc1 hc2
    have n1 : nI x1 = 0 ↔ x1 = 0 := nI_eq (b := 0) (by omega) (by omega)
    have n2 : nI s0 = 0 ↔ s0 = 0 := nI_eq (b := 0) (by omega) (by omega)
    refine wX11_term_51 d Q σ _ _ (by omega) ?_
    rw [ht.tok.2.2.1, ht.w13, n1, n2]
    refine ⟨fun z => k78 x1 s0 (Or.inl ⟨z, by omega, by omega⟩), fun z => ⟨fun y => k78 x1 s0 (Or.inr (Or.inl ⟨y, by omega, by omega⟩)), fun y => ⟨fun t => ?_, fun t => ⟨fun t2 => bad _ _ ?_, fun t2 => ?_⟩⟩⟩⟩
    · have r := hc2.resolve_left (fun q => t q.2.2)
      rcases r.1 with e | e
      · exact k78 x1 s0 (Or.inr (Or.inr (Or.inl ⟨e, by omega, r.2⟩)))
      · exact k78 x1 s0 (Or.inr (Or.inr (Or.inr (Or.inl ⟨e, by omega, r.2⟩))))
    · have r2 := hc2.resolve_right (fun q => by omega)
      have r1 := hc1.resolve_right (fun q => by omega)
      by_cases e : nt = 80
      · exact Or.inl ⟨e, rfl⟩
      · exact Or.inr ⟨by omega, Or.inl ⟨z, y, r2.1, r1.1, r1.2.1, r2.2.1, rfl⟩⟩
    · have r := hc1.resolve_left (fun q => t2 q.2.2)
      rcases r.1 with e | e
      · exact k78 x1 s0 (Or.inr (Or.inr (Or.inr (Or.inr (Or.inl ⟨e, r.2, t⟩)))))
      · exact k78 x1 s0 (Or.inr (Or.inr (Or.inr (Or.inr (Or.inr ⟨e, r.2, t⟩)))))
  have k25 : ∀ s0 : Nat, ((tW c i ≠ 15 ∧ tW c i ≠ 16 ∧ s0 = 0) ∨ ((tW c i = 15 ∨ tW c i = 16) ∧ s0 = 1)) → atX11_term_25 d Q σ (nI s0) := by
    intro s0 hc
    refine wX11_term_25 d Q σ _ (by omega) ?_
    rw [ht.w14, ht.w17]
    exact ⟨fun z => wX11_term_46 d Q σ _ (k51 s0 1 hc (Or.inr ⟨Or.inl z, rfl⟩)), fun z => ⟨fun y => k51 s0 0 hc (Or.inl ⟨z, y, rfl⟩), fun y => wX11_term_46 d Q σ _ (k51 s0 1 hc (Or.inr ⟨Or.inr y, rfl⟩))⟩⟩
  refine wX11_term d σ Q (by omega) ?_
  rw [ht.w15, ht.w16]
  exact ⟨fun z => wX11_term_20 d Q σ (k25 1 (Or.inr ⟨Or.inl z, rfl⟩)), fun z => ⟨fun y => k25 0 (Or.inl ⟨z, y, rfl⟩), fun y => wX11_term_20 d Q σ (k25 1 (Or.inr ⟨Or.inr y, rfl⟩))⟩⟩
theorem term_rS {c : CX} {i nt q j : Nat} {g : GI} {G : Nat → GI} (d : Nat) (σ : HS) (Q : Option AV → HS → Prop) (hd : 6 ≤ d) (h : RS c σ i nt q G) (hq : q < 900) (hn : nt < 80) (ht : TmS c i j g)
    (k : ∀ σ2, RS c σ2 j (nt + 1) (q + 1) (uF G q g) → Fr (cT (crb c)) σ σ2 → Q none σ2) : MT d mX11_term [vR 0 0] σ Q := by
  refine term_r d σ Q hd h hq (fun _ j2 g2 σ2 a b f => ?_) (fun j2 σ2 a => (ht.notF hn a).elim)
  obtain ⟨e1, e2⟩ := ht.det a
  subst e1
  subst e2
  exact k σ2 b f
theorem term_rF {c : CX} {i nt q j : Nat} {G : Nat → GI} (d : Nat) (σ : HS) (Q : Option AV → HS → Prop) (hd : 6 ≤ d) (h : RS c σ i nt q G) (hq : q < 900) (ht : TmF c i nt j)
    (k : ∀ σ2, RF c σ2 j → Fr (cT (crb c)) σ σ2 → Q none σ2) : MT d mX11_term [vR 0 0] σ Q := by
  refine term_r d σ Q hd h hq (fun hn j2 g2 σ2 a b f => (a.notF hn ht).elim) (fun j2 σ2 a b f => ?_)
  have e := ht.det a
  subst e
  exact k σ2 b f
