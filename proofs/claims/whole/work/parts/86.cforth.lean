/-! the class: goForth, goBack -/
def KZ (G : HS) (nP nE : Nat) (y : Nat → Nat → Option Nat) (X lf op p q : Nat → Nat) (cw : Int32 × Int32) (σ : HS) (z : ZS) : Prop := Sim G σ ∧ KG σ nP nE y X lf op cw ∧ KLs σ nP nE z ∧ ∃ tD tE B, BI nP nE 1000000 1 (yA y) (yc y) X lf p q z.1 z.2.1 z.2.2.1 z.2.2.2 tD tE B
section
variable {G : HS} {nP nE T : Nat} {y : Nat → Nat → Option Nat} {X lf op p q : Nat → Nat} {cw : Int32 × Int32}
def FOp (nP nE : Nat) (y : Nat → Nat → Option Nat) (D E0 E : Nat → Nat) (fl : Nat) : Prop := (∀ e, e < nE → E e = E0 e ∨ (E e < E0 e ∧ ∃ l, l < nP ∧ yA y l e ∧ D l < 1000000 ∧ E e = D l + yc y l e)) ∧ (fl = 0 → ∀ e, e < nE → E e = E0 e) ∧ (fl = 1 → ∃ e, e < nE ∧ E e < E0 e) ∧ fl ≤ 1
def RLX (nP nE : Nat) (y : Nat → Nat → Option Nat) (D E : Nat → Nat) (P j : Nat) : Prop := ∀ l e, l < nP → e < nE → (l < P ∨ (l = P ∧ e < j)) → yA y l e → D l < 1000000 → E e ≤ D l + yc y l e
theorem ix10 (P e : Nat) : nI P * 10 + nI e = nI (10 * P + e) := by rw [show (10 : Int32) = nI 10 from rfl, pk_mul, nI_add, Nat.mul_comm]
theorem FOp.upd {D E0 E : Nat → Nat} {fl P e : Nat} (h : FOp nP nE y D E0 E fl) (hP : P < nP) (he : e < nE) (ya : yA y P e) (hD : D P < 1000000) (lt : D P + yc y P e < E e) : FOp nP nE y D E0 (uF E e (D P + yc y P e)) 1 := by
  obtain ⟨h1, h2, h3, h4⟩ := h
  have le : E e ≤ E0 e := by
    rcases h1 e he with z | z <;> omega
  refine ⟨fun e2 he2 => ?_, fun z => absurd z (by omega), fun _ => ⟨e, he, by rw [uF_s]; omega⟩, Nat.le_refl _⟩
  by_cases z : e2 = e
  · subst z
    rw [uF_s]
    exact Or.inr ⟨by omega, P, hP, ya, hD, rfl⟩
  · rw [uF_n z]
    exact h1 e2 he2
theorem fo14_ok (d : Nat) (Q : Option AV → HS → Prop) (hd : 1 ≤ d) (hy : HY nP nE y) (pv : PV nP nE (yA y) (yc y) X lf op p q T) (D E0 : Nat → Nat) (pf : Nat → Option Nat) (P : Nat) (hP : P < nP)
    (k : ∀ σ2 E2 pl2 fl2, KZ G nP nE y X lf op p q cw σ2 (D, E2, pl2, pf) → FOp nP nE y D E0 E2 fl2 → RLX nP nE y D E2 (P + 1) 0 → atX6_goForth_4 d Q σ2 (nI fl2) (nI (P + 1))) :
    ∀ m j, j + m = nE → ∀ σ E pl fl, KZ G nP nE y X lf op p q cw σ (D, E, pl, pf) → FOp nP nE y D E0 E fl → RLX nP nE y D E P j → atX6_goForth_14 d Q σ (nI fl) (nI P) (nI j) := by
  obtain ⟨h80, h10, h200⟩ := id hy
  intro m
  induction m with
  | zero =>
    intro j hj σ E pl fl hz fo rl
    refine wX6_goForth_14 d Q σ _ _ _ hd ?_
    rw [hz.2.1.1.2]
    refine ⟨fun _ => ?_, fun z => absurd (nI_le (by omega) (by omega)) z⟩
    rintro _ rfl
    rw [nI_1]
    exact k σ E pl fl hz fo (fun l e hl he o => rl l e hl he (by omega))
  | succ m ih =>
    intro j hj σ E pl fl hz fo rl
    obtain ⟨hs, hg, hl, tD, tE, B, hb⟩ := id hz
    have hb1 := hb.1 P hP
    have hb2 := hb.2 j (by omega)
    have dg := hg.2.1 P j hP (by omega)
    dsimp only at hb1 hb2
    have vP : vp_in (nI P) 80 := vp_in_nI (by omega) (by omega)
    have vj : vp_in (nI j) 10 := vp_in_nI (by omega) (by omega)
    refine wX6_goForth_14 d Q σ _ _ _ hd ?_
    rw [hg.1.2, nI_clamp (show P < 2 ^ 31 by omega), (hl.1 P hP).1]
    refine ⟨fun z => absurd z (nI_ge (by omega) (by omega)), fun _ => ⟨vP, pk_le 1000000 (D P) (fun z => ?_) (fun z => ?_)⟩⟩
    · rintro _ rfl
      rw [nI_1]
      refine k σ E pl fl hz fo (fun l e hl2 he o ya hD => ?_)
      by_cases q2 : l = P
      · subst q2; omega
      · exact rl l e hl2 he (by omega) ya hD
    · rw [ix10, nI_clamp (show 10 * P + j < 2 ^ 31 by omega), dg.1, nI_clamp (show j < 2 ^ 31 by omega), (hl.2 j (by omega)).1]
      refine ⟨vp_in_nI (by omega) (by omega), ?_⟩
      rintro _ rfl
      refine ⟨vP, ?_⟩
      rintro _ rfl
      by_cases ya : yA y P j
      · have c200 := hy.c hP (show j < nE by omega)
        obtain ⟨x, hx⟩ := id ya
        have x2 := h200 P j x hP (by omega) hx
        refine ⟨fun w => absurd w (by rw [hx]; exact oI_m1 (by omega)), fun _ => ⟨vj, ?_⟩⟩
        rw [ya.c, nI_add]
        refine pk_le (E j) (D P + yc y P j) (fun w => ?_) (fun w => ⟨vj, ?_⟩)
        · rintro _ rfl
          rw [nI_1]
          refine ih (j + 1) (by omega) σ E pl fl hz fo (fun l e hl2 he o ya2 hD => ?_)
          by_cases q2 : l = P ∧ e = j
          · obtain ⟨rfl, rfl⟩ := q2; exact w
          · exact rl l e hl2 he (by omega) ya2 hD
        · rintro _ rfl
          refine ⟨vj, ?_⟩
          rintro _ rfl _ rfl
          rw [nI_1]
          refine ih (j + 1) (by omega) _ (uF E j (D P + yc y P j)) (uF pl j P) 1 ⟨(hs.up rfl).up rfl, (hg.upk (by decide) (by decide) (by decide) (by decide) (by decide)).upk (by decide) (by decide) (by decide) (by decide) (by decide), hl.uf, tD, _, _, hb.rf pv hP (by omega) ya w⟩ (fo.upd hP (by omega) ya z w) (fun l e hl2 he o ya2 hD => ?_)
          by_cases q1 : e = j
          · subst q1
            rw [uF_s]
            by_cases q2 : l = P
            · subst q2; exact Nat.le_refl _
            · have := rl l e hl2 he (by omega) ya2 hD
              omega
          · rw [uF_n q1]
            exact rl l e hl2 he (by omega) ya2 hD
      · rw [yA.no ya]
        refine ⟨fun _ => ?_, fun w => absurd rfl w⟩
        rintro _ rfl
        rw [nI_1]
        refine ih (j + 1) (by omega) σ E pl fl hz fo (fun l e hl2 he o ya2 hD => ?_)
        by_cases q2 : l = P ∧ e = j
        · obtain ⟨rfl, rfl⟩ := q2; exact absurd ya2 ya
        · exact rl l e hl2 he (by omega) ya2 hD
theorem forth_ok (d : Nat) (σ : HS) (Q : Option AV → HS → Prop) (hd : 1 ≤ d) (hy : HY nP nE y) (pv : PV nP nE (yA y) (yc y) X lf op p q T) (D E0 pl0 : Nat → Nat) (pf : Nat → Option Nat) (hz0 : KZ G nP nE y X lf op p q cw σ (D, E0, pl0, pf))
    (k : ∀ σ2 E2 pl2 fl2, KZ G nP nE y X lf op p q cw σ2 (D, E2, pl2, pf) → FOp nP nE y D E0 E2 fl2 → FO nP nE 1000000 (yA y) (yc y) D E0 E2 → Q (some (vI (nI fl2))) σ2) : MT d mX6_goForth [vR 10 0] σ Q := by
  obtain ⟨h80, h10, h200⟩ := id hy
  have key : ∀ m P, P + m = nP → ∀ σ E pl fl, KZ G nP nE y X lf op p q cw σ (D, E, pl, pf) → FOp nP nE y D E0 E fl → RLX nP nE y D E P 0 → atX6_goForth_4 d Q σ (nI fl) (nI P) := by
    intro m
    induction m with
    | zero =>
      intro P hP σ E pl fl hz fo rl
      refine wX6_goForth_4 d Q σ _ _ ?_
      rw [hz.2.1.1.1]
      refine ⟨fun _ => ⟨?_, k σ E pl fl hz fo ⟨fo.1, fun l e hl he ya hD => rl l e hl he (by omega) ya hD⟩⟩, fun z => absurd (nI_le (by omega) (by omega)) z⟩
      have : fl = 0 ∨ fl = 1 := by
        have := fo.2.2.2
        omega
      rcases this with rfl | rfl
      · exact nb_0.1
      · exact nb_1.1
    | succ m ih =>
      intro P hP σ E pl fl hz fo rl
      refine wX6_goForth_4 d Q σ _ _ ?_
      rw [hz.2.1.1.1]
      refine ⟨fun z => absurd z (nI_ge (by omega) (by omega)), fun _ => ?_⟩
      exact fo14_ok d Q hd hy pv D E0 pf P (by omega) (fun σ2 E2 pl2 fl2 a b e => ih (P + 1) (by omega) σ2 E2 pl2 fl2 a b e) nE 0 (by omega) σ E pl fl hz fo rl
  exact wX6_goForth d σ Q (key nP 0 (by omega) σ E0 pl0 0 hz0 ⟨fun e _ => Or.inl rfl, fun _ e _ => rfl, fun z => absurd z (by omega), by omega⟩ (fun l e _ _ o => by omega))
def BKp (nP nE : Nat) (y : Nat → Nat → Option Nat) (X E D0 D : Nat → Nat) (fl : Nat) : Prop := (∀ l, l < nP → D l = D0 l ∨ (D l < D0 l ∧ ∃ f, f < nE ∧ 0 < X (10 * l + f) ∧ E f < 1000000 ∧ E f = D l + yc y l f)) ∧ (fl = 0 → ∀ l, l < nP → D l = D0 l) ∧ fl ≤ 1
def RLB (nP nE : Nat) (y : Nat → Nat → Option Nat) (X E D : Nat → Nat) (e j : Nat) : Prop := ∀ l f, l < nP → f < nE → (f < e ∨ (f = e ∧ l < j)) → 0 < X (10 * l + f) → E f < 1000000 → D l + yc y l f ≤ E f
theorem bk14_ok (d : Nat) (Q : Option AV → HS → Prop) (hd : 1 ≤ d) (hy : HY nP nE y) (pv : PV nP nE (yA y) (yc y) X lf op p q T) (D0 E pl : Nat → Nat) (e : Nat) (he : e < nE)
    (k : ∀ σ2 D2 pf2 fl2, KZ G nP nE y X lf op p q cw σ2 (D2, E, pl, pf2) → BKp nP nE y X E D0 D2 fl2 → RLB nP nE y X E D2 (e + 1) 0 → atX6_goBack_4 d Q σ2 (nI fl2) (nI (e + 1))) :
    ∀ m j, j + m = nP → ∀ σ D pf fl, KZ G nP nE y X lf op p q cw σ (D, E, pl, pf) → BKp nP nE y X E D0 D fl → RLB nP nE y X E D e j → atX6_goBack_14 d Q σ (nI fl) (nI e) (nI j) := by
  obtain ⟨h80, h10, h200⟩ := id hy
  intro m
  induction m with
  | zero =>
    intro j hj σ D pf fl hz bk rl
    refine wX6_goBack_14 d Q σ _ _ _ hd ?_
    rw [hz.2.1.1.1]
    refine ⟨fun _ => ?_, fun z => absurd (nI_le (by omega) (by omega)) z⟩
    rintro _ rfl
    rw [nI_1]
    exact k σ D pf fl hz bk (fun l f hl hf o => rl l f hl hf (by omega))
  | succ m ih =>
    intro j hj σ D pf fl hz bk rl
    obtain ⟨hs, hg, hl, tD, tE, B, hb⟩ := id hz
    have hb1 := hb.1 j (by omega)
    have hb2 := hb.2 e he
    have dg := hg.2.1 j e (by omega) he
    dsimp only at hb1 hb2
    have vP : vp_in (nI j) 80 := vp_in_nI (by omega) (by omega)
    have ve : vp_in (nI e) 10 := vp_in_nI (by omega) (by omega)
    have vx : vp_in (nI (10 * j + e)) 800 := vp_in_nI (by omega) (by omega)
    have skip : (0 < X (10 * j + e) → D j + yc y j e ≤ E e) → atX6_goBack_14 d Q σ (nI fl) (nI e) (nI (j + 1)) := by
      intro w
      refine ih (j + 1) (by omega) σ D pf fl hz bk (fun l f hl2 hf o xp hE => ?_)
      by_cases q2 : l = j ∧ f = e
      · obtain ⟨rfl, rfl⟩ := q2; exact w xp
      · exact rl l f hl2 hf (by omega) xp hE
    refine wX6_goBack_14 d Q σ _ _ _ hd ?_
    rw [hg.1.1, nI_clamp (show e < 2 ^ 31 by omega), (hl.2 e he).1]
    refine ⟨fun z => absurd z (nI_ge (by omega) (by omega)), fun _ => ⟨ve, pk_le 1000000 (E e) (fun z => ?_) (fun z => ⟨ve, ?_⟩)⟩⟩
    · rintro _ rfl
      rw [nI_1]
      refine k σ D pf fl hz bk (fun l f hl2 hf o xp hE => ?_)
      by_cases q2 : f = e
      · subst q2; omega
      · exact rl l f hl2 hf (by omega) xp hE
    · rw [ix10, nI_clamp (show 10 * j + e < 2 ^ 31 by omega), dg.1, dg.2.1, nI_clamp (show j < 2 ^ 31 by omega), (hl.1 j (by omega)).1]
      refine ⟨vx, ?_⟩
      rintro _ rfl
      refine ⟨vx, pk_le (X (10 * j + e)) 0 (fun w => ?_) (fun w => ⟨vP, ?_⟩) (hx := rfl) (hy := rfl) (ha := by omega) (hb := by omega)⟩
      · rintro _ rfl
        rw [nI_1]
        exact skip (fun xp => by omega)
      · obtain ⟨ya, qe⟩ := pv.2.1 j e (by omega) he w
        rw [ya.c]
        dsimp only
        rw [pk_sub (show yc y j e ≤ E e by omega)]
        refine pk_le (D j) (E e - yc y j e) (fun w2 => ?_) (fun w2 => ⟨vP, ?_⟩)
        · rintro _ rfl
          rw [nI_1]
          exact skip (fun _ => by omega)
        · rintro _ rfl
          refine ⟨vP, ?_⟩
          rintro _ rfl _ rfl
          rw [nI_1]
          have le : D j ≤ D0 j := by
            rcases bk.1 j (by omega) with z2 | z2 <;> omega
          refine ih (j + 1) (by omega) _ (uF D j (E e - yc y j e)) (uF pf j (some e)) 1 ⟨(hs.up rfl).up rfl, (hg.upk (by decide) (by decide) (by decide) (by decide) (by decide)).upk (by decide) (by decide) (by decide) (by decide) (by decide), hl.ul, _, tE, _, hb.rl pv (by omega) he w (show E e < D j + yc y j e by omega) (fun _ => z)⟩ ⟨fun l hl2 => ?_, fun z2 => absurd z2 (by omega), Nat.le_refl _⟩ (fun l f hl2 hf o xp hE => ?_)
          · by_cases q1 : l = j
            · subst q1
              rw [uF_s]
              exact Or.inr ⟨by omega, e, he, w, z, by omega⟩
            · rw [uF_n q1]
              exact bk.1 l hl2
          · by_cases q1 : l = j
            · subst q1
              rw [uF_s]
              by_cases q2 : f = e
              · subst q2; omega
              · have := rl l f hl2 hf (by omega) xp hE
                omega
            · rw [uF_n q1]
              exact rl l f hl2 hf (by omega) xp hE
theorem back_ok (d : Nat) (σ : HS) (Q : Option AV → HS → Prop) (hd : 1 ≤ d) (hy : HY nP nE y) (pv : PV nP nE (yA y) (yc y) X lf op p q T) (D0 E pl : Nat → Nat) (pf0 : Nat → Option Nat) (hz0 : KZ G nP nE y X lf op p q cw σ (D0, E, pl, pf0))
    (k : ∀ σ2 D2 pf2 fl2, KZ G nP nE y X lf op p q cw σ2 (D2, E, pl, pf2) → BKp nP nE y X E D0 D2 fl2 → BK nP nE 1000000 (yc y) X E D0 D2 → Q (some (vI (nI fl2))) σ2) : MT d mX6_goBack [vR 10 0] σ Q := by
  obtain ⟨h80, h10, h200⟩ := id hy
  have key : ∀ m e, e + m = nE → ∀ σ D pf fl, KZ G nP nE y X lf op p q cw σ (D, E, pl, pf) → BKp nP nE y X E D0 D fl → RLB nP nE y X E D e 0 → atX6_goBack_4 d Q σ (nI fl) (nI e) := by
    intro m
    induction m with
    | zero =>
      intro e he σ D pf fl hz bk rl
      refine wX6_goBack_4 d Q σ _ _ ?_
      rw [hz.2.1.1.2]
      refine ⟨fun _ => ⟨?_, k σ D pf fl hz bk ⟨bk.1, fun l f hl hf xp hE => rl l f hl hf (by omega) xp hE⟩⟩, fun z => absurd (nI_le (by omega) (by omega)) z⟩
      have : fl = 0 ∨ fl = 1 := by
        have := bk.2.2
        omega
      rcases this with rfl | rfl
      · exact nb_0.1
      · exact nb_1.1
    | succ m ih =>
      intro e he σ D pf fl hz bk rl
      refine wX6_goBack_4 d Q σ _ _ ?_
      rw [hz.2.1.1.2]
      refine ⟨fun z => absurd z (nI_ge (by omega) (by omega)), fun _ => ?_⟩
      exact bk14_ok d Q hd hy pv D0 E pl e (by omega) (fun σ2 D2 pf2 fl2 a b e => ih _ (by omega) σ2 D2 pf2 fl2 a b e) nP 0 (by omega) σ D pf fl hz bk rl
  exact wX6_goBack d σ Q (key nE 0 (by omega) σ D0 pf0 0 hz0 ⟨fun l _ => Or.inl rfl, fun _ l _ => rfl, by omega⟩ (fun l e _ _ o => by omega))
end
