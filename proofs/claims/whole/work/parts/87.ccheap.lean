/-! the class: cheapestFeast -/
theorem sim_ub {G σ : HS} {k i b n : Nat} {f : Nat → Int32} (h : Sim G σ) (hk : ∀ s, scr k s = true) : Sim G (upB σ k i b n f) := by
  intro k' i' s' hs
  have : k' ≠ k := fun z => by
    rw [z, hk] at hs
    cases hs
  rw [upB_ne this]
  exact h k' i' s' hs
theorem KG.ub {σ : HS} {nP nE i b n : Nat} {y : Nat → Nat → Option Nat} {X lf op : Nat → Nat} {cw : Int32 × Int32} {f : Nat → Int32} (h : KG σ nP nE y X lf op cw) : KG (upB σ 89 i b n f) nP nE y X lf op cw := by
  refine ⟨by rw [upB_ne (by decide)]; exact h.1, fun P e hP he => ?_, fun P hP => ?_, fun e he => ?_, ?_⟩
  · rw [upB_ne (by decide), upB_ne (by decide)]; exact h.2.1 P e hP he
  · rw [upB_ne (by decide)]; exact h.2.2.1 P hP
  · rw [upB_ne (by decide)]; exact h.2.2.2.1 e he
  · unfold KC
    rw [upB_ne (by decide)]
    exact h.2.2.2.2
section
variable {G : HS} {nP nE T : Nat} {y : Nat → Nat → Option Nat} {X lf op p q : Nat → Nat} {cw : Int32 × Int32}
theorem ch99_ok (d : Nat) (Q : Option AV → HS → Prop) (σ : HS) (z : ZS) (hy : HY nP nE y) (hz : KZ G nP nE y X lf op p q cw σ z)
    (k0 : (∀ f, f < nE → 0 < op f → 1000000 ≤ z.2.1 f) → Q (some (vI (-1))) σ) (k1 : ∀ b, b < nE → 0 < op b → z.2.1 b < 1000000 → (∀ f, f < nE → 0 < op f → z.2.1 b ≤ z.2.1 f) → Q (some (vI (nI b))) σ) :
    ∀ m j, j + m = nE → ∀ bst : Option Nat, (bst = none → ∀ f, f < j → 0 < op f → 1000000 ≤ z.2.1 f) → (∀ b, bst = some b → b < j ∧ 0 < op b ∧ z.2.1 b < 1000000 ∧ ∀ f, f < j → 0 < op f → z.2.1 b ≤ z.2.1 f) → atX6_cheapestFeast_99 d Q σ (oI bst) (nI j) := by
  obtain ⟨h80, h10, h200⟩ := id hy
  obtain ⟨hs, hg, hl, tD, tE, B, hb⟩ := hz
  intro m
  induction m with
  | zero =>
    intro j hj bst c0 c1
    refine wX6_cheapestFeast_99 d Q σ _ _ ?_
    rw [hg.1.2]
    refine ⟨fun _ => ?_, fun w => absurd (nI_le (by omega) (by omega)) w⟩
    match bst with
    | none => exact k0 (fun f hf => c0 rfl f (by omega))
    | some b =>
      obtain ⟨b1, b2, b3, b4⟩ := c1 b rfl
      exact k1 b (by omega) b2 b3 (fun f hf => b4 f (by omega))
  | succ m ih =>
    intro j hj bst c0 c1
    have vx : vp_in (nI j) 10 := vp_in_nI (by omega) (by omega)
    have og := hg.2.2.2.1 j (by omega)
    have eb := (hb.2 j (by omega)).2.1
    have skip : (0 < op j → 1000000 ≤ z.2.1 j ∨ ∃ b, bst = some b ∧ z.2.1 b ≤ z.2.1 j) → atX6_cheapestFeast_99 d Q σ (oI bst) (nI (j + 1)) := by
      intro e
      refine ih (j + 1) (by omega) bst (fun w f hf ho => ?_) (fun b w => ?_)
      · by_cases zz : f = j
        · subst zz
          rcases e ho with e | ⟨b, b1, -⟩
          · exact e
          · rw [w] at b1; exact nomatch b1
        · exact c0 w f (by omega) ho
      · obtain ⟨b1, b2, b3, b4⟩ := c1 b w
        refine ⟨by omega, b2, b3, fun f hf ho => ?_⟩
        by_cases zz : f = j
        · subst zz
          rcases e ho with e | ⟨b', q1, q2⟩
          · omega
          · rw [w] at q1
            have := Option.some.inj q1
            subst this
            exact q2
        · exact b4 f (by omega) ho
    have take : 0 < op j → z.2.1 j < 1000000 → (∀ b, bst = some b → z.2.1 j ≤ z.2.1 b) → atX6_cheapestFeast_99 d Q σ (oI (some j)) (nI (j + 1)) := by
      intro o1 e1 e2
      refine ih (j + 1) (by omega) (some j) (fun w => nomatch w) (fun b w => ?_)
      have := Option.some.inj w
      subst this
      refine ⟨by omega, o1, e1, fun f hf ho => ?_⟩
      by_cases zz : f = j
      · subst zz; exact Nat.le_refl _
      · match hb : bst with
        | none =>
          have := c0 rfl f (by omega) ho
          omega
        | some b =>
          have := (c1 b rfl).2.2.2 f (by omega) ho
          have := e2 b rfl
          omega
    have no : (0 < op j → 1000000 ≤ z.2.1 j) → atX6_cheapestFeast_131 d Q σ (oI bst) (nI j) := by
      intro e
      refine wX6_cheapestFeast_131 d Q σ _ _ (wX6_cheapestFeast_132 d Q σ _ _ _ ⟨fun _ => ?_, fun w => absurd rfl w⟩)
      rintro _ rfl
      rw [nI_1]
      exact skip (fun o => Or.inl (e o))
    refine wX6_cheapestFeast_99 d Q σ _ _ ?_
    rw [hg.1.2, nI_clamp (show j < 2 ^ 31 by omega), og.1, (hl.2 j (by omega)).1]
    refine ⟨fun w => absurd w (nI_ge (by omega) (by omega)), fun _ => ⟨vx, pk_le (op j) 0 (fun w => no (fun o => by omega)) (fun w => ⟨vx, pk_le 1000000 (z.2.1 j) (fun w2 => no (fun _ => w2)) (fun w2 => ?_)⟩)⟩⟩
    refine wX6_cheapestFeast_132 d Q σ _ _ _ ⟨fun w3 => absurd w3 (by decide), fun _ => ?_⟩
    match hbs : bst with
    | none =>
      refine ⟨fun _ => ?_, fun w3 => absurd rfl w3⟩
      rintro _ rfl
      rw [nI_1]
      exact take w w2 (fun b yb => nomatch yb)
    | some b =>
      obtain ⟨b1, b2, b3, b4⟩ := c1 b rfl
      refine ⟨fun w3 => absurd w3 (oI_m1 (by omega)), fun _ => ⟨vx, ?_⟩⟩
      show vp_in (nI b) 10 ∧ ((σ.1 89 0 (nI b).toNatClampNeg ≤ σ.1 89 0 (nI j).toNatClampNeg → _) ∧ (¬ σ.1 89 0 (nI b).toNatClampNeg ≤ σ.1 89 0 (nI j).toNatClampNeg → _))
      rw [nI_clamp (show b < 2 ^ 31 by omega), nI_clamp (show j < 2 ^ 31 by omega), (hl.2 b (by omega)).1, (hl.2 j (by omega)).1]
      refine ⟨vp_in_nI (by omega) (by omega), pk_le (z.2.1 b) (z.2.1 j) (fun y3 => ?_) (fun y3 => ?_)⟩
      · rintro _ rfl
        rw [nI_1]
        exact skip (fun _ => Or.inr ⟨b, rfl, y3⟩)
      · rintro _ rfl
        rw [nI_1]
        refine take w w2 (fun b' yb => ?_)
        have := Option.some.inj yb
        subst this
        omega
theorem ch57_0 (d : Nat) (Q : Option AV → HS → Prop) (σ : HS) (x : Int32) (hd : 1 ≤ d) (k : atX6_cheapestFeast_99 d Q σ (-1) 0) : atX6_cheapestFeast_57 d Q σ 0 x := by
  refine wX6_cheapestFeast_57 d Q σ _ _ hd ⟨fun _ => ?_, fun _ => ⟨fun _ => ?_, fun w => absurd rfl w⟩⟩
  · rintro _ rfl
    exact k
  · rintro _ rfl
    exact k
theorem ch57_ok (d : Nat) (Q : Option AV → HS → Prop) (hd : 2 ≤ d) (hy : HY nP nE y) (pv : PV nP nE (yA y) (yc y) X lf op p q T)
    (k : ∀ σ2 z, KZ G nP nE y X lf op p q cw σ2 z → FX nP nE 1000000 (yA y) (yc y) X z.1 z.2.1 → atX6_cheapestFeast_99 d Q σ2 (-1) 0) :
    ∀ m r, r + m = nE + 1 → ∀ σ z, KZ G nP nE y X lf op p q cw σ z → RI nP nE 1000000 (yA y) (yc y) X p q z.1 z.2.1 r → atX6_cheapestFeast_57 d Q σ 1 (nI r) := by
  obtain ⟨h80, h10, h200⟩ := id hy
  intro m
  induction m with
  | zero =>
    intro r hr σ z hz ri
    have := ri.le
    omega
  | succ m ih =>
    intro r hr σ z hz ri
    obtain ⟨D, E, pl, pf⟩ := z
    refine wX6_cheapestFeast_57 d Q σ _ _ (by omega) ?_
    rw [hz.2.1.1.2]
    refine ⟨fun w => absurd w (nI_nlt (by omega) (by omega)), fun _ => ⟨fun w => absurd w (by decide), fun _ => ?_⟩⟩
    refine forth_ok (d - 1) σ _ (by omega) hy pv D E pl pf hz (fun σ2 E2 pl2 fl2 z2 fo fo2 => ⟨_, rfl, ?_⟩)
    have e2 : fl2 = 0 ∨ fl2 = 1 := by
      have := fo.2.2.2
      omega
    rcases e2 with rfl | rfl
    · refine ⟨fun _ => ?_, fun w => absurd rfl w⟩
      rintro _ rfl
      exact ch57_0 d Q σ2 _ (by omega) (k σ2 _ z2 (ri.fx0 fo2 (fo.2.1 rfl)))
    · refine ⟨fun w => absurd w (by decide), fun _ => ?_⟩
      refine back_ok (d - 1) σ2 _ (by omega) hy pv D E2 pl2 pf z2 (fun σ3 D2 pf2 fl3 z3 bk bk2 => ⟨_, rfl, ?_⟩)
      have e3 : fl3 = 0 ∨ fl3 = 1 := by
        have := bk.2.2
        omega
      rcases e3 with rfl | rfl
      · refine ⟨fun _ => ?_, fun w => absurd rfl w⟩
        rintro _ rfl
        exact ch57_0 d Q σ3 _ (by omega) (k σ3 _ z3 (RI.fx1 fo2 bk2 (bk.2.1 rfl)))
      · refine ⟨fun w => absurd w (by decide), fun _ => ?_⟩
        rintro _ rfl
        rw [nI_1]
        obtain ⟨tD, tE, B, hb⟩ := hz.2.2.2
        obtain ⟨tD2, tE2, B2, hb2⟩ := z2.2.2.2
        exact ih (r + 1) (by omega) σ3 _ z3 (ri.next pv (fun l hl => (hb.1 l hl).1) (fun f hf => (hb2.2 f hf).1) (fun f hf => (hb.2 f hf).2.1) fo2 (fo.2.2.1 rfl) bk2)
theorem ch11_ok (d : Nat) (Q : Option AV → HS → Prop) (hy : HY nP nE y) (k : ∀ σ2, Sim G σ2 → KG σ2 nP nE y X lf op cw → (∀ e, e < nE → σ2.1 89 0 e = nI 1000000) → (∀ P, P < nP → σ2.1 94 0 P = nI (if 0 < lf P then 0 else 1000000) ∧ σ2.1 95 0 P = -1) → atX6_cheapestFeast_57 d Q σ2 1 0) :
    ∀ m j, j + m = nP → ∀ σ, Sim G σ → KG σ nP nE y X lf op cw → (∀ e, e < nE → σ.1 89 0 e = nI 1000000) → (∀ P, P < j → σ.1 94 0 P = nI (if 0 < lf P then 0 else 1000000) ∧ σ.1 95 0 P = -1) → atX6_cheapestFeast_11 d Q σ (nI j) := by
  obtain ⟨h80, h10, h200⟩ := id hy
  intro m
  induction m with
  | zero =>
    intro j hj σ hs hg hf hp
    refine wX6_cheapestFeast_11 d Q σ _ ?_
    rw [hg.1.1]
    exact ⟨fun _ => k σ hs hg hf (fun P hP => hp P (by omega)), fun w => absurd (nI_le (by omega) (by omega)) w⟩
  | succ m ih =>
    intro j hj σ hs hg hf hp
    have vx : vp_in (nI j) 80 := vp_in_nI (by omega) (by omega)
    have lg := hg.2.2.1 j (by omega)
    have go : ∀ v : Nat, (if 0 < lf j then 0 else 1000000) = v → atX6_cheapestFeast_11 d Q (up (up σ 94 0 j (nI v)) 95 0 j (-1)) (nI (j + 1)) := by
      rintro _ rfl
      refine ih (j + 1) (by omega) _ ((hs.up rfl).up rfl) ((hg.upk (by decide) (by decide) (by decide) (by decide) (by decide)).upk (by decide) (by decide) (by decide) (by decide) (by decide)) (fun e he => ?_) (fun P hP => ?_)
      · rw [up_ne (by decide), up_ne (by decide)]; exact hf e he
      · rw [up_ne (show (94 : Nat) ≠ 95 by decide)]
        by_cases z : P = j
        · subst z
          rw [up_same, up_same]
          exact ⟨rfl, rfl⟩
        · rw [up_f z, up_f z, up_ne (show (95 : Nat) ≠ 94 by decide)]
          exact hp P (by omega)
    refine wX6_cheapestFeast_11 d Q σ _ ?_
    rw [hg.1.1, nI_clamp (show j < 2 ^ 31 by omega), lg.1]
    refine ⟨fun w => absurd w (nI_ge (by omega) (by omega)), fun _ => ⟨vx, pk_le (lf j) 0 (fun w => ⟨vx, ?_⟩) (fun w => ⟨vx, ?_⟩)⟩⟩
    · rintro _ rfl
      refine ⟨vx, ?_⟩
      rintro _ rfl _ rfl
      rw [nI_1]
      exact go 1000000 (if_neg (by omega))
    · rintro _ rfl
      refine ⟨vx, ?_⟩
      rintro _ rfl _ rfl
      rw [nI_1]
      exact go 0 (if_pos w)
theorem cheap_ok (d : Nat) (σ : HS) (Q : Option AV → HS → Prop) (hd : 2 ≤ d) (hy : HY nP nE y) (pv : PV nP nE (yA y) (yc y) X lf op p q T) (hT : T ≤ 1000000) (hs : Sim G σ) (hg : KG σ nP nE y X lf op cw)
    (k0 : ∀ σ2 z, KZ G nP nE y X lf op p q cw σ2 z → FX nP nE 1000000 (yA y) (yc y) X z.1 z.2.1 → (∀ f, f < nE → 0 < op f → 1000000 ≤ z.2.1 f) → Q (some (vI (-1))) σ2)
    (k1 : ∀ σ2 z b, KZ G nP nE y X lf op p q cw σ2 z → FX nP nE 1000000 (yA y) (yc y) X z.1 z.2.1 → b < nE → 0 < op b → z.2.1 b < 1000000 → (∀ f, f < nE → 0 < op f → z.2.1 b ≤ z.2.1 f) → Q (some (vI (nI b))) σ2) : MT d mX6_cheapestFeast [vR 10 0] σ Q := by
  obtain ⟨h80, h10, h200⟩ := id hy
  refine wX6_cheapestFeast d σ Q (by omega) (pu_fill (d - 1) 89 0 10 1000000 σ _ (by decide) rfl rfl (by decide) (fun _ => rfl) (by decide) ⟨rfl, ?_⟩)
  refine ch11_ok d Q hy (fun σ2 s2 g2 f2 p2 => ?_) nP 0 (by omega) _ (sim_ub hs (fun _ => rfl)) hg.ub (fun e he => ?_) (fun P hP => absurd hP (Nat.not_lt_zero P))
  · refine ch57_ok d Q hd hy pv (fun σ3 z z3 fx => ch99_ok d Q σ3 z hy z3 (fun h => k0 σ3 z z3 fx h) (fun b b1 b2 b3 b4 => k1 σ3 z b z3 fx b1 b2 b3 b4) nE 0 (by omega) none (fun _ f hf => absurd hf (Nat.not_lt_zero f)) (fun b w => nomatch w)) (nE + 1) 0 (by omega) σ2 ((fun l => if 0 < lf l then 0 else 1000000), (fun _ => 1000000), (fun _ => 0), (fun _ => none)) ⟨s2, g2, ⟨fun l hl => p2 l hl, fun f hf => ⟨f2 f hf, fun w => absurd w (Nat.lt_irrefl _)⟩⟩, _, _, _, BI.init pv hT (fun l _ => rfl) (fun f _ => rfl) (fun l _ => rfl)⟩ (RI.zero (fun f _ => rfl))
  · rw [upB_k, if_pos ⟨rfl, by omega, by omega⟩]
    rfl
end
