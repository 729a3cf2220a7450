theorem RUN_le {U : Nat → Nat} {P : Nat → Prop} {n a e : Nat} (h : RUN U P a e) (h0 : ¬ P 0) (ha : a < n) (hU : ∀ j, n ≤ j → U j = 0) : e ≤ n := by
  refine Nat.le_of_not_lt (fun z => h0 ?_)
  have := h.2.1 n (by omega) z
  rwa [hU n (Nat.le_refl n)] at this
theorem U_lt {σ : HS} {n : Nat} {U : Nat → Nat} (hx : RX σ n U) (j : Nat) : U j < 256 := by
  by_cases z2 : j < n
  · exact (hx.2.2.1 j z2).1
  · rw [hx.2.2.2 j (by omega)]
    omega
theorem next_215 (d n a e w v : Nat) (U : Nat → Nat) (σ0 σ : HS) (Q : Option AV → HS → Prop) (hd : 2 ≤ d) (ha : a < n) (ht : TB U a w v e) (nt : ¬ twn U a) (hp : PN σ0 n U a σ) (he : σ.1 0 0 16 = nI (a + 1)) (h : ∀ σ2, RTk U σ2 w v a e → Fr cN σ0 σ2 → Q none σ2) : atX11_next_215 d Q σ (nI (U a)) := by
  have hn := hp.1.1
  have hU := hp.1.2.2.2
  have hu : U a < 2 ^ 31 := by have := U_lt hp.1 a; omega
  have iL : (97 ≤ nI (U a) ∧ nI (U a) ≤ 122) ↔ isL (U a) := by
    unfold isL
    rw [← nI_leI (a := 97) (b := U a) (by omega) hu, ← nI_leI (a := U a) (b := 122) hu (by omega)]
    exact Iff.rfl
  have iD : (48 ≤ nI (U a) ∧ nI (U a) ≤ 57) ↔ isD (U a) := by
    unfold isD
    rw [← nI_leI (a := 48) (b := U a) (by omega) hu, ← nI_leI (a := U a) (b := 57) hu (by omega)]
    exact Iff.rfl
  refine wX11_next_215 d Q σ _ (by omega) ?_
  rw [iL, iD]
  refine ⟨fun nl => ⟨fun nd => ?_, fun yd => ?_⟩, fun yl => ?_⟩
  · have good : isS (U a) → ∀ σ_81 : HS, σ_81 = up σ 0 0 17 5 → Q none σ_81 := by
      rintro ys _ rfl
      rcases ht with ⟨h1, h2, h3, h4⟩ | ⟨h1, _⟩ | ⟨h1, _⟩ | ⟨h1, _⟩ | ⟨h1, _⟩ | ⟨h1, _⟩ | ⟨h1, _⟩
      · refine h _ ⟨hp.token.2.1, fun _ => by rw [up_f (by decide), he, h4], Or.inr (Or.inr (Or.inr (Or.inr (Or.inr ⟨?_, up_same, h2.symm⟩))))⟩ hp.token.2.2
        unfold isS at h1
        omega
      · exact absurd h1 nd
      · exact absurd h1 nd
      · exact absurd h1 nt
      · exact absurd h1 nl
      · exact absurd h1 nl
      · exact absurd ys h1
    have bad : ¬ isS (U a) → ∀ σ_81 : HS, σ_81 = up σ 0 0 17 1 → Q none σ_81 := by
      rintro ys _ rfl
      rcases ht with ⟨h1, h2, h3, h4⟩ | ⟨h1, _⟩ | ⟨h1, _⟩ | ⟨h1, _⟩ | ⟨h1, _⟩ | ⟨h1, _⟩ | ⟨_, _, _, h1⟩
      · exact absurd h1 ys
      · exact absurd h1 nd
      · exact absurd h1 nd
      · exact absurd h1 nt
      · exact absurd h1 nl
      · exact absurd h1 nl
      · exact h _ ⟨hp.token.2.1, fun z => by omega, Or.inr (Or.inl ⟨h1, up_same⟩)⟩ hp.token.2.2
    refine pk_eq (U a) 59 (fun z => good (by unfold isS; omega)) (fun z1 => ?_)
    refine pk_eq (U a) 40 (fun z => good (by unfold isS; omega)) (fun z2 => ?_)
    refine pk_eq (U a) 41 (fun z => good (by unfold isS; omega)) (fun z3 => ?_)
    refine pk_eq (U a) 60 (fun z => good (by unfold isS; omega)) (fun z4 => ?_)
    refine pk_eq (U a) 62 (fun z => good (by unfold isS; omega)) (fun z5 => ?_)
    refine pk_eq (U a) 61 (fun z => good (by unfold isS; omega)) (fun z6 => ?_)
    refine pk_eq (U a) 43 (fun z => good (by unfold isS; omega)) (fun z7 => ?_)
    refine And.symm (pk_eq (U a) 45 (fun z => good (by unfold isS; omega)) (fun z8 => bad (by unfold isS; omega)))
  · rintro _ rfl _ rfl
    rw [up_f (by decide), hp.2.1]
    rcases ht with ⟨h1, _⟩ | ⟨h1, h2, h3, h4, h5, h6⟩ | ⟨h1, h2, h3, h4⟩ | ⟨h1, _⟩ | ⟨h1, _⟩ | ⟨h1, _⟩ | ⟨_, h1, _⟩
    · unfold isS at h1; unfold isD at yd; omega
    · have hl := RUN_le h2 not_isD0 ha hU
      have := h2.1
      exact next_num d n a e w v U σ0 Q hd ha h2 hl (Or.inl ⟨h3, h4, h5, h6⟩) h (e - a) 0 _ (by omega) hp.number.end up_same (by rw [up_f (by decide), up_same]; rfl)
    · have hl := RUN_le h2 not_isD0 ha hU
      have := h2.1
      exact next_num d n a e w v U σ0 Q hd ha h2 hl (Or.inr ⟨h3, h4⟩) h (e - a) 0 _ (by omega) hp.number.end up_same (by rw [up_f (by decide), up_same]; rfl)
    · exact absurd h1 nt
    · exact absurd h1 nl
    · exact absurd h1 nl
    · exact absurd yd h1
  · rcases ht with ⟨h1, _⟩ | ⟨h1, _⟩ | ⟨h1, _⟩ | ⟨h1, _⟩ | ⟨h1, h2, h3, h4, h5⟩ | ⟨h1, h2, h3, h4, h5⟩ | ⟨_, _, h1, _⟩
    · unfold isS at h1; unfold isL at yl; omega
    · unfold isD at h1; unfold isL at yl; omega
    · unfold isD at h1; unfold isL at yl; omega
    · exact absurd h1 nt
    · have hl := RUN_le h3 not_isL0 ha hU
      have hne : a ≠ e := fun z => h3.2.2 (z ▸ yl)
      have := h3.1
      exact next_let d n a e w v U σ0 Q hd ha h3 hl (Or.inl ⟨h4, h5⟩) h (e - (a + 1)) (a + 1) σ (by omega) (by omega) hp he
    · have hl := RUN_le h3 not_isL0 ha hU
      have hne : a ≠ e := fun z => h3.2.2 (z ▸ yl)
      have := h3.1
      exact next_let d n a e w v U σ0 Q hd ha h3 hl (Or.inr ⟨h4, h5⟩) h (e - (a + 1)) (a + 1) σ (by omega) (by omega) hp he
    · exact absurd yl h1
theorem next_58 (d n a e w v : Nat) (U : Nat → Nat) (σ0 σ : HS) (Q : Option AV → HS → Prop) (hd : 2 ≤ d) (ha : a ≤ n) (ht : (a = n ∧ w = 0) ∨ (a < n ∧ ¬ isB (U a) ∧ TB U a w v e)) (hp : PN σ0 n U a σ) (h : ∀ σ2, RTk U σ2 w v a e → Fr cN σ0 σ2 → Q none σ2) : atX11_next_58 d Q σ := by
  have hn := hp.1.1
  have hsz : ∀ σ', PN σ0 n U a σ' → σ'.1 0 0 12 = nI n := fun σ' h => h.1.2.1
  refine wX11_next_58 d Q σ (by omega) ?_
  rw [hp.2.1]
  refine sign_ok (d - 1) n a U σ _ hp.1 (by omega) ⟨_, rfl, ?_⟩
  rintro _ rfl
  rw [hp.2.1, nI_1]
  have hp1 := hp.end (x := nI (a + 1))
  rw [hp1.2.1, hsz _ hp1]
  refine pk_lt a n (fun z => ?_) (fun z => ?_)
  · have tb : TB U a w v e := ht.elim (fun q => by omega) (fun q => q.2.2)
    have no : ¬ twn U a → atX11_next_215 d Q (up σ 0 0 16 (nI (a + 1))) (nI (U a)) := fun nt => next_215 d n a e w v U σ0 _ Q hd z tb nt hp1 up_same h
    have u0 := U_lt hp.1 a
    have u1 := U_lt hp.1 (a + 1)
    have u2 := U_lt hp.1 (a + 2)
    have iL : (97 ≤ nI (U (a + 2)) ∧ nI (U (a + 2)) ≤ 122) ↔ isL (U (a + 2)) := by
      unfold isL
      rw [← nI_leI (a := 97) (b := U (a + 2)) (by omega) (by omega), ← nI_leI (a := U (a + 2)) (b := 122) (by omega) (by omega)]
      exact Iff.rfl
    have iD : (48 ≤ nI (U (a + 2)) ∧ nI (U (a + 2)) ≤ 57) ↔ isD (U (a + 2)) := by
      unfold isD
      rw [← nI_leI (a := 48) (b := U (a + 2)) (by omega) (by omega), ← nI_leI (a := U (a + 2)) (b := 57) (by omega) (by omega)]
      exact Iff.rfl
    have a2 : nI a + 2 = nI (a + 2) := nI_add a 2
    refine And.symm (pk_eq (U a) 116 (fun z0 => ?_) (fun z0 => no (fun t => z0 t.1)))
    rw [nI_1]
    refine sign_ok (d - 1) n (a + 1) U _ _ hp1.1 (by omega) ⟨_, rfl, pk_lt (U (a + 1)) 48 (fun z1 => no (fun t => by have := t.2.1; omega)) (fun z1 => ?_)⟩
    rw [hp1.2.1, nI_1]
    refine sign_ok (d - 1) n (a + 1) U _ _ hp1.1 (by omega) ⟨_, rfl, pk_le 56 (U (a + 1)) (fun z2 => no (fun t => by have := t.2.1; omega)) (fun z2 => ?_)⟩
    rw [hp1.2.1, a2]
    refine sign_ok (d - 1) n (a + 2) U _ _ hp1.1 (by omega) ⟨_, rfl, fun z3 => no (fun t => t.2.2.1 (iL.mp z3)), fun z3 => ?_⟩
    rw [hp1.2.1, a2]
    refine sign_ok (d - 1) n (a + 2) U _ _ hp1.1 (by omega) ⟨_, rfl, fun z4 => no (fun t => t.2.2.2 (iD.mp z4)), fun z4 => ?_⟩
    have tw : twn U a := ⟨z0, ⟨z1, by omega⟩, fun q => z3 (iL.mpr q), fun q => z4 (iD.mpr q)⟩
    obtain ⟨e1, e2, e3⟩ := TB_town tb tw
    rw [hp1.2.1, nI_1]
    refine sign_ok (d - 1) n (a + 1) U _ _ hp1.1 (by omega) ⟨_, rfl, ?_⟩
    rintro _ rfl _ rfl _ rfl
    have hp2 := (hp1.number (x := nI (U (a + 1)) - 48)).end (x := nI (a + 2))
    rw [(hp1.number (x := nI (U (a + 1)) - 48)).2.1, a2]
    refine h _ ⟨hp2.token.2.1, fun _ => by rw [up_f (by decide), up_same, e3], Or.inr (Or.inr (Or.inr (Or.inl ⟨e1, up_same, ?_⟩)))⟩ hp2.token.2.2
    rw [up_f (by decide), up_f (by decide), up_same, show (48 : Int32) = nI 48 from rfl, pk_sub z1, e2]
  · have e0 : a = n ∧ w = 0 := ht.elim id (fun q => by omega)
    rintro _ rfl _ rfl _ rfl
    have hp2 := hp1.token (x := 0)
    rw [hsz _ hp2]
    have hp3 := hp2.at (b := n)
    rw [← e0.1] at hp3 ⊢
    exact h _ ⟨hp3.end.2.1, fun z => by omega, Or.inl ⟨e0.2, by rw [up_f (by decide), up_f (by decide), up_same]⟩⟩ hp3.end.2.2
theorem next_ok (d n p w v a e : Nat) (U : Nat → Nat) (σ : HS) (Q : Option AV → HS → Prop) (hd : 2 ≤ d) (hx : RX σ n U) (he : σ.1 0 0 16 = nI p) (ht : TK U n p w v a e) (h : ∀ σ2, RTk U σ2 w v a e → Fr cN σ σ2 → Q none σ2) : MT d mX11_next [vR 0 0] σ Q := by
  obtain ⟨h1, h2, h3⟩ := ht
  have hn := hx.1
  have han : a ≤ n := by
    rcases h3 with q | q <;> omega
  have key : ∀ f q σ', q + f = a → p ≤ q → PN σ n U q σ' → atX11_next_8 d Q σ' := by
    intro f
    induction f with
    | zero =>
      intro q σ' hq hpq hp
      have eq' : q = a := by omega
      subst eq'
      have fin := next_58 d n q e w v U σ σ' Q hd han h3 hp h
      refine wX11_next_8 d Q σ' (by omega) ?_
      rw [hp.1.2.1, hp.2.1]
      refine pk_le n q (fun _ => fin) (fun z => ?_)
      have nb : ¬ isB (U q) := h3.elim (fun q => by omega) (fun q => q.2.1)
      have u0 := U_lt hp.1 q
      unfold isB at nb
      refine sign_ok (d - 1) n q U _ _ hp.1 (by omega) ⟨_, rfl, pk_eq (U q) 32 (fun z => by omega) (fun _ => ?_)⟩
      rw [hp.2.1]
      exact sign_ok (d - 1) n q U _ _ hp.1 (by omega) ⟨_, rfl, And.symm (pk_eq (U q) 10 (fun z => by omega) (fun _ => fin))⟩
    | succ f ih =>
      intro q σ' hq hpq hp
      have yb := h2 q hpq (by omega)
      have u0 := U_lt hp.1 q
      refine wX11_next_8 d Q σ' (by omega) ?_
      rw [hp.1.2.1, hp.2.1]
      refine pk_le n q (fun z => by omega) (fun z => ?_)
      have go : ∀ σ_12 : HS, σ_12 = up σ' 0 0 15 (nI q + 1) → atX11_next_8 d Q σ_12 := by
        rintro _ rfl
        rw [nI_1]
        exact ih (q + 1) _ (by omega) (by omega) hp.at
      refine sign_ok (d - 1) n q U _ _ hp.1 (by omega) ⟨_, rfl, ?_⟩
      rw [hp.2.1]
      refine pk_eq (U q) 32 (fun z => go) (fun z => ?_)
      refine sign_ok (d - 1) n q U _ _ hp.1 (by omega) ⟨_, rfl, ?_⟩
      rw [hp.2.1]
      refine And.symm (pk_eq (U q) 10 (fun _ => go) (fun z => ?_))
      unfold isB at yb
      omega
  refine wX11_next d σ Q ?_
  rintro _ rfl
  rw [he]
  exact key (a - p) p _ (by omega) (Nat.le_refl _) ⟨hx.fr (c := cN) (Fr.rf.up rfl) rfl (fun _ => rfl), up_same, Fr.rf.up rfl⟩
