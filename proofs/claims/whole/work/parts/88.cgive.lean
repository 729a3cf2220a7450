/-! the class: measuresAlong, giveAlong -/
theorem KG.ug {σ : HS} {nP nE j v : Nat} {y : Nat → Nat → Option Nat} {X lf op : Nat → Nat} {cw : Int32 × Int32} (h : KG σ nP nE y X lf op cw) (hv : v ≤ 10000) : KG (up σ 97 0 j (nI v)) nP nE y (uF X j v) lf op cw := by
  refine ⟨by rw [up_ne (by decide)]; exact h.1, fun P e hP he => ?_, fun P hP => ?_, fun e he => ?_, h.2.2.2.2.upd (by decide)⟩
  · rw [up_ne (show (96 : Nat) ≠ 97 by decide)]
    obtain ⟨a, b, c⟩ := h.2.1 P e hP he
    by_cases z : 10 * P + e = j
    · rw [z, up_same, uF_s]
      rw [z] at a
      exact ⟨a, rfl, hv⟩
    · rw [up_f z, uF_n z]
      exact ⟨a, b, c⟩
  · rw [up_ne (by decide)]; exact h.2.2.1 P hP
  · rw [up_ne (by decide)]; exact h.2.2.2.1 e he
theorem KG.ull {σ : HS} {nP nE j v : Nat} {y : Nat → Nat → Option Nat} {X lf op : Nat → Nat} {cw : Int32 × Int32} (h : KG σ nP nE y X lf op cw) (hv : v ≤ 100000000) : KG (up σ 93 0 j (nI v)) nP nE y X (uF lf j v) op cw := by
  refine ⟨by rw [up_ne (by decide)]; exact h.1, fun P e hP he => ?_, fun P hP => ?_, fun e he => ?_, h.2.2.2.2.upd (by decide)⟩
  · rw [up_ne (by decide), up_ne (by decide)]; exact h.2.1 P e hP he
  · by_cases z : P = j
    · rw [z, up_same, uF_s]; exact ⟨rfl, hv⟩
    · rw [up_f z, uF_n z]; exact h.2.2.1 P hP
  · rw [up_ne (by decide)]; exact h.2.2.2.1 e he
theorem KG.uo {σ : HS} {nP nE j v : Nat} {y : Nat → Nat → Option Nat} {X lf op : Nat → Nat} {cw : Int32 × Int32} (h : KG σ nP nE y X lf op cw) (hv : v ≤ 10000) : KG (up σ 88 0 j (nI v)) nP nE y X lf (uF op j v) cw := by
  refine ⟨by rw [up_ne (by decide)]; exact h.1, fun P e hP he => ?_, fun P hP => ?_, fun e he => ?_, h.2.2.2.2.upd (by decide)⟩
  · rw [up_ne (by decide), up_ne (by decide)]; exact h.2.1 P e hP he
  · rw [up_ne (by decide)]; exact h.2.2.1 P hP
  · by_cases z : e = j
    · rw [z, up_same, uF_s]; exact ⟨rfl, hv⟩
    · rw [up_f z, uF_n z]; exact h.2.2.2.1 e he
theorem KG.uc {σ : HS} {nP nE : Nat} {y : Nat → Nat → Option Nat} {X lf op : Nat → Nat} {cw : Int32 × Int32} {x1 x2 : Int32} (h : KG σ nP nE y X lf op cw) : KG (up (up σ 10 0 15 x1) 10 0 16 x2) nP nE y X lf op (x1, x2) := by
  refine ⟨⟨?_, ?_⟩, fun P e hP he => ?_, fun P hP => ?_, fun e he => ?_, ?_, up_same⟩
  · rw [up_f (by decide), up_f (by decide)]; exact h.1.1
  · rw [up_f (by decide), up_f (by decide)]; exact h.1.2
  · rw [up_ne (by decide), up_ne (by decide), up_ne (by decide), up_ne (by decide)]; exact h.2.1 P e hP he
  · rw [up_ne (by decide), up_ne (by decide)]; exact h.2.2.1 P hP
  · rw [up_ne (by decide), up_ne (by decide)]; exact h.2.2.2.1 e he
  · rw [up_f (by decide), up_same]
theorem KLs.upk {σ : HS} {nP nE k i s : Nat} {z : ZS} {x : Int32} (h : KLs σ nP nE z) (h1 : (94 : Nat) ≠ k) (h2 : (95 : Nat) ≠ k) (h3 : (89 : Nat) ≠ k) (h4 : (90 : Nat) ≠ k) : KLs (up σ k i s x) nP nE z := by
  refine ⟨fun l hl => ?_, fun f hf => ?_⟩
  · rw [up_ne h1, up_ne h2]; exact h.1 l hl
  · rw [up_ne h3, up_ne h4]; exact h.2 f hf
section
variable {G : HS} {nP nE T : Nat} {y : Nat → Nat → Option Nat} {X lf op p q s dm : Nat → Nat} {cw : Int32 × Int32}
theorem ma_ok (d : Nat) (Q : Option AV → HS → Prop) (σ : HS) (z : ZS) (b k : Nat) (hd : 1 ≤ d) (hy : HY nP nE y) (hz : KZ G nP nE y X lf op p q cw σ z) (pv : PV nP nE (yA y) (yc y) X lf op p q T) (fx : FX nP nE 1000000 (yA y) (yc y) X z.1 z.2.1) (hb : b < nE) (ho : 0 < op b) (hE : z.2.1 b < 1000000)
    (hkn : k < nE) (al : ∀ j, j < k → z.2.2.2 (Lk z.2.2.1 z.2.2.2 b j) ≠ none) (hk : z.2.2.2 (Lk z.2.2.1 z.2.2.2 b k) = none) (hlf : 0 < lf (Lk z.2.2.1 z.2.2.2 b k))
    (go : ∀ n, 0 < n → n ≤ op b → n ≤ lf (Lk z.2.2.1 z.2.2.2 b k) → (∀ j, j < k → n ≤ X (10 * Lk z.2.2.1 z.2.2.2 b j + Fk z.2.2.1 z.2.2.2 b (j + 1))) → Q (some (vI (nI n))) σ) :
    ∀ m i n, i + m = k → 0 < n → n ≤ op b → (∀ j, j < i → n ≤ X (10 * Lk z.2.2.1 z.2.2.2 b j + Fk z.2.2.1 z.2.2.2 b (j + 1))) → atX6_measuresAlong_12 d Q σ (nI n) (nI (Fk z.2.2.1 z.2.2.2 b i)) (nI i) := by
  obtain ⟨h80, h10, h200⟩ := id hy
  obtain ⟨hs, hg, hl, tD, tE, B, hbi⟩ := hz
  obtain ⟨D, E, pl, pf⟩ := z
  dsimp only at *
  have ob := (hg.2.2.2.1 b hb).2
  intro m
  induction m with
  | zero =>
    intro i n hi n0 n1 n2
    have e : i = k := by omega
    subst e
    obtain ⟨f1, l1, -, f3, -⟩ := pth_L hbi pv fx hb ho hE i al
    have vf : vp_in (nI (Fk pl pf b i)) 10 := vp_in_nI (by omega) (by omega)
    have vx : vp_in (nI (Lk pl pf b i)) 80 := vp_in_nI (by omega) (by omega)
    have lg := hg.2.2.1 _ l1
    have ff : σ.1 90 0 (Fk pl pf b i) = nI (Lk pl pf b i) := by
      rw [(hl.2 _ f1).2 f3, Lk_F]
    have bf : σ.1 95 0 (Lk pl pf b i) = -1 := by
      rw [(hl.1 _ l1).2]
      dsimp only
      rw [hk]
      rfl
    refine wX6_measuresAlong_12 d Q σ _ _ _ hd ?_
    rw [hg.1.2, nI_clamp (show Fk pl pf b i < 2 ^ 31 by omega), ff]
    refine ⟨fun w => absurd w (nI_nlt (by omega) (by omega)), fun _ => ⟨fun w => absurd w (oI_m1 (by omega)), fun _ => ⟨vf, ?_⟩⟩⟩
    rintro _ rfl
    rw [nI_clamp (show Lk pl pf b i < 2 ^ 31 by omega), bf]
    refine ⟨vx, ?_⟩
    rintro _ rfl
    rw [lg.1, iMin_nI (by omega) (by omega)]
    refine ⟨fun _ => ⟨vx, ?_⟩, fun w => absurd rfl w⟩
    rintro _ rfl _ rfl
    have fin := go (min n (lf (Lk pl pf b i))) (by omega) (by omega) (by omega) (fun j hj => by have := n2 j hj; omega)
    exact wX6_measuresAlong_12 d Q σ _ _ _ hd ⟨fun _ => fin, fun _ => ⟨fun _ => fin, fun w => absurd rfl w⟩⟩
  | succ m ih =>
    intro i n hi n0 n1 n2
    have al2 : ∀ j, j < i → pf (Lk pl pf b j) ≠ none := fun j hj => al j (by omega)
    obtain ⟨f1, l1, -, f3, -⟩ := pth_L hbi pv fx hb ho hE i al2
    obtain ⟨a1, a2, a3, a4, a5⟩ := pth_n hbi pv fx hb ho hE i al2 (al i (by omega))
    have vf : vp_in (nI (Fk pl pf b i)) 10 := vp_in_nI (by omega) (by omega)
    have vx : vp_in (nI (Lk pl pf b i)) 80 := vp_in_nI (by omega) (by omega)
    have ff : σ.1 90 0 (Fk pl pf b i) = nI (Lk pl pf b i) := by
      rw [(hl.2 _ f1).2 f3, Lk_F]
    have bf : σ.1 95 0 (Lk pl pf b i) = nI (Fk pl pf b (i + 1)) := by
      rw [(hl.1 _ l1).2]
      dsimp only
      rw [a1]
      rfl
    have hx := hg.2.1 _ _ l1 a3
    refine wX6_measuresAlong_12 d Q σ _ _ _ hd ?_
    rw [hg.1.2, nI_clamp (show Fk pl pf b i < 2 ^ 31 by omega), ff]
    refine ⟨fun w => absurd w (nI_nlt (by omega) (by omega)), fun _ => ⟨fun w => absurd w (oI_m1 (by omega)), fun _ => ⟨vf, ?_⟩⟩⟩
    rintro _ rfl
    rw [nI_clamp (show Lk pl pf b i < 2 ^ 31 by omega), bf]
    refine ⟨vx, ?_⟩
    rintro _ rfl
    refine ⟨fun w => absurd w (oI_m1 (by omega)), fun _ => ?_⟩
    rw [ix10, nI_clamp (show 10 * Lk pl pf b i + Fk pl pf b (i + 1) < 2 ^ 31 by omega), hx.2.1, iMin_nI (by omega) (by omega)]
    refine ⟨vp_in_nI (by omega) (by omega), ?_⟩
    rintro _ rfl _ rfl
    rw [nI_1]
    refine ih (i + 1) _ (by omega) (by omega) (by omega) (fun j hj => ?_)
    by_cases zz : j = i
    · subst zz; omega
    · have := n2 j (by omega)
      omega
theorem ga_ok (d : Nat) (Q : Option AV → HS → Prop) (z : ZS) (b k n : Nat) (tD tE : Nat → Nat) (B : Nat) (hd : 1 ≤ d) (hy : HY nP nE y) (hdm : ∀ e, e < nE → dm e ≤ 10000) (hbi : BI nP nE 1000000 1 (yA y) (yc y) X lf p q z.1 z.2.1 z.2.2.1 z.2.2.2 tD tE B) (pv : PV nP nE (yA y) (yc y) X lf op p q T) (fx : FX nP nE 1000000 (yA y) (yc y) X z.1 z.2.1) (hb : b < nE) (ho : 0 < op b) (hE : z.2.1 b < 1000000)
    (hkn : k < nE) (al : ∀ j, j < k → z.2.2.2 (Lk z.2.2.1 z.2.2.2 b j) ≠ none) (hk : z.2.2.2 (Lk z.2.2.1 z.2.2.2 b k) = none) (hn : n ≤ lf (Lk z.2.2.1 z.2.2.2 b k)) (hX : ∀ j, j < k → n ≤ X (10 * Lk z.2.2.1 z.2.2.2 b j + Fk z.2.2.1 z.2.2.2 b (j + 1)))
    (fin : ∀ σ2 X2, Sim G σ2 → KG σ2 nP nE y X2 (uF lf (Lk z.2.2.1 z.2.2.2 b k) (lf (Lk z.2.2.1 z.2.2.2 b k) - n)) op cw → KLs σ2 nP nE z → AU nP nE (yc y) s dm X lf op q z.1 z.2.1 z.2.2.1 z.2.2.2 b n T k X2 → atX6_giveAlong_96 d Q σ2 (nI b) (nI n)) :
    ∀ m i σ Y, i + m = k → Sim G σ → KG σ nP nE y Y lf op cw → KLs σ nP nE z → AU nP nE (yc y) s dm X lf op q z.1 z.2.1 z.2.2.1 z.2.2.2 b n T i (uF Y (10 * Lk z.2.2.1 z.2.2.2 b i + Fk z.2.2.1 z.2.2.2 b i) (Y (10 * Lk z.2.2.1 z.2.2.2 b i + Fk z.2.2.1 z.2.2.2 b i) + n)) → atX6_giveAlong_11 d Q σ (nI b) (nI n) (nI (Fk z.2.2.1 z.2.2.2 b i)) (nI i) := by
  obtain ⟨h80, h10, h200⟩ := id hy
  obtain ⟨D, E, pl, pf⟩ := z
  dsimp only at *
  intro m
  induction m with
  | zero =>
    intro i σ Y hi hs hg hl au
    have e : i = k := by omega
    subst e
    obtain ⟨f1, l1, -, f3, -⟩ := pth_L hbi pv fx hb ho hE i al
    have vf : vp_in (nI (Fk pl pf b i)) 10 := vp_in_nI (by omega) (by omega)
    have vx : vp_in (nI (Lk pl pf b i)) 80 := vp_in_nI (by omega) (by omega)
    have vj : vp_in (nI (10 * Lk pl pf b i + Fk pl pf b i)) 800 := vp_in_nI (by omega) (by omega)
    have lg := hg.2.2.1 _ l1
    have hx := hg.2.1 _ _ l1 f1
    have ff : σ.1 90 0 (Fk pl pf b i) = nI (Lk pl pf b i) := by
      rw [(hl.2 _ f1).2 f3, Lk_F]
    have bf : σ.1 95 0 (Lk pl pf b i) = -1 := by
      rw [(hl.1 _ l1).2]
      dsimp only
      rw [hk]
      rfl
    have bnd : Y (10 * Lk pl pf b i + Fk pl pf b i) + n ≤ 10000 := by
      have c1 := au.2.1 _ f1
      have c2 := hdm _ f1
      have c3 := sm_part (fun l => uF Y (10 * Lk pl pf b i + Fk pl pf b i) (Y (10 * Lk pl pf b i + Fk pl pf b i) + n) (10 * l + Fk pl pf b i)) l1
      rw [uF_s] at c3
      omega
    refine wX6_giveAlong_11 d Q σ _ _ _ _ hd ?_
    rw [hg.1.2, nI_clamp (show Fk pl pf b i < 2 ^ 31 by omega), ff]
    refine ⟨fun w => absurd w (nI_nlt (by omega) (by omega)), fun _ => ⟨fun w => absurd w (oI_m1 (by omega)), fun _ => ⟨vf, ?_⟩⟩⟩
    rintro _ rfl
    rw [ix10, nI_clamp (show 10 * Lk pl pf b i + Fk pl pf b i < 2 ^ 31 by omega), hx.2.1, nI_add]
    refine ⟨vj, vj, ?_⟩
    rintro _ rfl
    rw [nI_clamp (show Lk pl pf b i < 2 ^ 31 by omega), up_ne (show (95 : Nat) ≠ 97 by decide), bf]
    refine ⟨vx, ?_⟩
    rintro _ rfl
    rw [up_ne (show (93 : Nat) ≠ 97 by decide), lg.1, pk_sub hn]
    refine ⟨fun _ => ⟨vx, vx, ?_⟩, fun w => absurd rfl w⟩
    rintro _ rfl _ rfl
    have f96 := fin _ _ ((hs.up rfl).up rfl) ((hg.ug bnd).ull (j := Lk pl pf b i) (v := lf (Lk pl pf b i) - n) (by omega)) ((hl.upk (by decide) (by decide) (by decide) (by decide)).upk (by decide) (by decide) (by decide) (by decide)) au
    exact wX6_giveAlong_11 d Q _ _ _ _ _ hd ⟨fun _ => f96, fun _ => ⟨fun _ => f96, fun w => absurd rfl w⟩⟩
  | succ m ih =>
    intro i σ Y hi hs hg hl au
    have al2 : ∀ j, j < i → pf (Lk pl pf b j) ≠ none := fun j hj => al j (by omega)
    have al3 : ∀ j, j < i + 1 → pf (Lk pl pf b j) ≠ none := fun j hj => al j (by omega)
    obtain ⟨f1, l1, -, f3, -⟩ := pth_L hbi pv fx hb ho hE i al2
    obtain ⟨a1, a2, a3, a4, a5⟩ := pth_n hbi pv fx hb ho hE i al2 (al i (by omega))
    obtain ⟨-, l2, -, -, -⟩ := pth_L hbi pv fx hb ho hE (i + 1) al3
    have df := pth_dif (i := i) (j := i + 1) hbi pv fx hb ho hE (by omega) al3
    have vf : vp_in (nI (Fk pl pf b i)) 10 := vp_in_nI (by omega) (by omega)
    have vx : vp_in (nI (Lk pl pf b i)) 80 := vp_in_nI (by omega) (by omega)
    have vj : vp_in (nI (10 * Lk pl pf b i + Fk pl pf b i)) 800 := vp_in_nI (by omega) (by omega)
    have vj2 : vp_in (nI (10 * Lk pl pf b i + Fk pl pf b (i + 1))) 800 := vp_in_nI (by omega) (by omega)
    have hx := hg.2.1 _ _ l1 f1
    have ff : σ.1 90 0 (Fk pl pf b i) = nI (Lk pl pf b i) := by
      rw [(hl.2 _ f1).2 f3, Lk_F]
    have bf : σ.1 95 0 (Lk pl pf b i) = nI (Fk pl pf b (i + 1)) := by
      rw [(hl.1 _ l1).2]
      dsimp only
      rw [a1]
      rfl
    have bnd : Y (10 * Lk pl pf b i + Fk pl pf b i) + n ≤ 10000 := by
      have c1 := au.2.1 _ f1
      have c2 := hdm _ f1
      have c3 := sm_part (fun l => uF Y (10 * Lk pl pf b i + Fk pl pf b i) (Y (10 * Lk pl pf b i + Fk pl pf b i) + n) (10 * l + Fk pl pf b i)) l1
      rw [uF_s] at c3
      omega
    obtain ⟨n2, au2⟩ := au.step hbi pv fx h10 hb ho hE al3 (hX i (by omega))
    have g2 := hg.ug (j := 10 * Lk pl pf b i + Fk pl pf b i) bnd
    have hx2 := g2.2.1 _ _ l1 a3
    generalize hX2 : uF Y (10 * Lk pl pf b i + Fk pl pf b i) (Y (10 * Lk pl pf b i + Fk pl pf b i) + n) = X2 at *
    refine wX6_giveAlong_11 d Q σ _ _ _ _ hd ?_
    rw [hg.1.2, nI_clamp (show Fk pl pf b i < 2 ^ 31 by omega), ff]
    refine ⟨fun w => absurd w (nI_nlt (by omega) (by omega)), fun _ => ⟨fun w => absurd w (oI_m1 (by omega)), fun _ => ⟨vf, ?_⟩⟩⟩
    rintro _ rfl
    rw [ix10, nI_clamp (show 10 * Lk pl pf b i + Fk pl pf b i < 2 ^ 31 by omega), hx.2.1, nI_add]
    refine ⟨vj, vj, ?_⟩
    rintro _ rfl
    rw [nI_clamp (show Lk pl pf b i < 2 ^ 31 by omega), up_ne (show (95 : Nat) ≠ 97 by decide), bf]
    refine ⟨vx, ?_⟩
    rintro _ rfl
    refine ⟨fun w => absurd w (oI_m1 (by omega)), fun _ => ?_⟩
    rw [ix10, nI_clamp (show 10 * Lk pl pf b i + Fk pl pf b (i + 1) < 2 ^ 31 by omega), hx2.2.1, pk_sub n2]
    refine ⟨vj2, vj2, ?_⟩
    rintro _ rfl _ rfl
    rw [nI_1]
    refine ih (i + 1) _ _ (by omega) ((hs.up rfl).up rfl) (g2.ug (by omega)) ((hl.upk (by decide) (by decide) (by decide) (by decide)).upk (by decide) (by decide) (by decide) (by decide)) ?_
    rw [uF_n (show 10 * Lk pl pf b (i + 1) + Fk pl pf b (i + 1) ≠ 10 * Lk pl pf b i + Fk pl pf b (i + 1) by omega)]
    exact au2
theorem galong_ok (d : Nat) (σ : HS) (Q : Option AV → HS → Prop) (z : ZS) (b F C : Nat) (hd : 2 ≤ d) (hy : HY nP nE y) (hdm : ∀ e, e < nE → dm e ≤ 10000) (hz : KZ G nP nE y X lf op p q (nI F, nI C) σ z) (fc : FC nP nE s dm X lf op) (pv : PV nP nE (yA y) (yc y) X lf op p q T) (fx : FX nP nE 1000000 (yA y) (yc y) X z.1 z.2.1) (hb : b < nE) (ho : 0 < op b) (hE : z.2.1 b < 1000000) (hmin : ∀ f, f < nE → 0 < op f → z.2.1 b ≤ z.2.1 f)
    (k1 : ∀ σ2 X2 lf2 op2 p2 q2 T2 n e, 0 < n → Sim G σ2 → KG σ2 nP nE y X2 lf2 op2 (nI (F + n), nI (C + e)) → FC nP nE s dm X2 lf2 op2 → PV nP nE (yA y) (yc y) X2 lf2 op2 p2 q2 T2 → T2 ≤ 1000000 → sm op2 nE + n = sm op nE → cst nP nE (yc y) X2 = cst nP nE (yc y) X + e → Q none σ2) : MT d mX6_giveAlong [vR 10 0, vI (nI b)] σ Q := by
  obtain ⟨h80, h10, h200⟩ := id hy
  obtain ⟨hs, hg, hl, tD, tE, B, hbi⟩ := id hz
  obtain ⟨k, kn, al, hk, hlf, hD⟩ := pth_end hbi pv fx hb ho hE
  have vb : vp_in (nI b) 10 := vp_in_nI (by omega) (by omega)
  have og := hg.2.2.2.1 b hb
  refine wX6_giveAlong d _ σ Q (by omega) (wX6_measuresAlong (d - 1) _ σ _ ?_)
  rw [nI_clamp (show b < 2 ^ 31 by omega), og.1]
  refine ⟨vb, ?_⟩
  rintro _ rfl
  refine ma_ok (d - 1) _ σ z b k (by omega) hy hz pv fx hb ho hE kn al hk hlf (fun n n0 n1 n2 n3 => ⟨_, rfl, ?_⟩) k 0 (op b) (by omega) ho (Nat.le_refl _) (fun j hj => absurd hj (Nat.not_lt_zero j))
  refine ga_ok (s := s) (dm := dm) d Q z b k n tD tE B (by omega) hy hdm hbi pv fx hb ho hE kn al hk n2 n3 (fun σ3 X3 s3 g3 l3 au3 => ?_) k 0 σ X (by omega) hs hg hl (AU.start hbi pv fx fc h10 hb ho hE n1)
  have og3 := g3.2.2.2.1 b hb
  refine wX6_giveAlong_96 d Q σ3 _ _ ?_
  rw [nI_clamp (show b < 2 ^ 31 by omega), og3.1, pk_sub n1]
  refine ⟨vb, vb, ?_⟩
  rintro _ rfl _ rfl
  rw [up_ne (show (10 : Nat) ≠ 88 by decide), g3.2.2.2.2.1]
  refine ⟨vb, ?_⟩
  rintro _ rfl
  rw [up_f (show (16 : Nat) ≠ 15 by decide), up_ne (show (10 : Nat) ≠ 88 by decide), g3.2.2.2.2.2, up_ne (show (89 : Nat) ≠ 10 by decide), up_ne (show (89 : Nat) ≠ 88 by decide), (l3.2 b hb).1, pk_mul]
  dsimp only
  rw [nI_add, nI_add]
  obtain ⟨fc3, ec⟩ := au3.fin hD n2
  refine k1 _ X3 _ _ _ _ (z.2.1 b) n (n * z.2.1 b) n0 (((s3.up rfl).up rfl).up rfl) (g3.uo (j := b) (v := op b - n) (by omega)).uc fc3 (PV.aug hbi pv fx hb ho hE hmin au3.2.2.2.2 (fun l _ => ?_) (fun f _ => ?_)) (by omega) ?_ ec
  · by_cases w : l = Lk z.2.2.1 z.2.2.2 b k
    · rw [w, uF_s]; omega
    · rw [uF_n w]; exact Nat.le_refl _
  · by_cases w : f = b
    · rw [w, uF_s]; omega
    · rw [uF_n w]; exact Nat.le_refl _
  · have := sm_upd op (op b - n) hb
    have e : (fun k => if k = b then op b - n else op k) = uF op b (op b - n) := rfl
    rw [e] at this
    omega
end
