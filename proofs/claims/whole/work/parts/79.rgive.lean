/-! the reference: giveMore -/
theorem RG.ug {σ : HS} {nS nF j v : Nat} {X lf op : Nat → Nat} {cw : Int32 × Int32} (h : RG σ nS nF X lf op cw) (hv : v ≤ 10000) : RG (up σ 43 0 j (nI v)) nS nF (uF X j v) lf op cw := by
  refine ⟨fun l hl => ?_, fun f hf => ?_, fun l f hl hf => ?_, ?_⟩
  · rw [up_ne (by decide)]; exact h.1 l hl
  · rw [up_ne (by decide)]; exact h.2.1 f hf
  · by_cases z : 10 * l + f = j
    · rw [z, up_same, uF_s]; exact ⟨rfl, hv⟩
    · rw [up_f z, uF_n z]; exact h.2.2.1 l f hl hf
  · rw [up_ne (by decide)]; exact h.2.2.2
theorem RG.uo {σ : HS} {nS nF j v : Nat} {X lf op : Nat → Nat} {cw : Int32 × Int32} (h : RG σ nS nF X lf op cw) (hv : v ≤ 10000) : RG (up σ 44 0 j (nI v)) nS nF X lf (uF op j v) cw := by
  refine ⟨fun l hl => ?_, fun f hf => ?_, fun l f hl hf => ?_, ?_⟩
  · rw [up_ne (by decide)]; exact h.1 l hl
  · by_cases z : f = j
    · rw [z, up_same, uF_s]; exact ⟨rfl, hv⟩
    · rw [up_f z, uF_n z]; exact h.2.1 f hf
  · rw [up_ne (by decide)]; exact h.2.2.1 l f hl hf
  · rw [up_ne (by decide)]; exact h.2.2.2
theorem RG.ull {σ : HS} {nS nF j v : Nat} {X lf op : Nat → Nat} {cw : Int32 × Int32} (h : RG σ nS nF X lf op cw) (hv : v ≤ 100000) : RG (up σ 42 0 j (nI v)) nS nF X (uF lf j v) op cw := by
  refine ⟨fun l hl => ?_, fun f hf => ?_, fun l f hl hf => ?_, ?_⟩
  · by_cases z : l = j
    · rw [z, up_same, uF_s]; exact ⟨rfl, hv⟩
    · rw [up_f z, uF_n z]; exact h.1 l hl
  · rw [up_ne (by decide)]; exact h.2.1 f hf
  · rw [up_ne (by decide)]; exact h.2.2.1 l f hl hf
  · rw [up_ne (by decide)]; exact h.2.2.2
theorem RG.uc {σ : HS} {nS nF : Nat} {X lf op : Nat → Nat} {cw : Int32 × Int32} {x y : Int32} (h : RG σ nS nF X lf op cw) : RG (up (up σ 0 0 56 x) 0 0 57 y) nS nF X lf op (x, y) := by
  refine ⟨fun l hl => ?_, fun f hf => ?_, fun l f hl hf => ?_, ?_, ?_⟩
  · rw [up_ne (by decide), up_ne (by decide)]; exact h.1 l hl
  · rw [up_ne (by decide), up_ne (by decide)]; exact h.2.1 f hf
  · rw [up_ne (by decide), up_ne (by decide)]; exact h.2.2.1 l f hl hf
  · rw [up_f (by decide), up_same]
  · rw [up_same]
theorem RLb.upk {σ : HS} {nS nF k i s : Nat} {z : ZS} {x : Int32} (h : RLb σ nS nF z) (h1 : (45 : Nat) ≠ k) (h2 : (47 : Nat) ≠ k) (h3 : (46 : Nat) ≠ k) (h4 : (48 : Nat) ≠ k) : RLb (up σ k i s x) nS nF z := by
  refine ⟨fun l hl => ?_, fun f hf => ?_⟩
  · rw [up_ne h1, up_ne h2]; exact h.1 l hl
  · rw [up_ne h3, up_ne h4]; exact h.2 f hf
theorem oI_neg (f : Nat) (hf : f < 2 ^ 31) : ¬ oI (some f) < 0 := nI_pos hf
theorem rd_le {G : HS} {w : WD} {κ f : Nat} (hW : WO G w) (hf : f < wf w) : rd w κ f ≤ 10000 := by
  unfold rd
  by_cases z : wfk w f = κ
  · rw [if_pos z]; exact (hW.2.2.1 f hf).2.2.2.2.2
  · rw [if_neg z]; omega
theorem rd_sum {G : HS} {w : WD} {κ : Nat} (hW : WO G w) : sm (rd w κ) (wf w) ≤ 100000 := by
  have h2 := hW.1.2.2.1
  have : sm (rd w κ) (wf w) ≤ sm (fun _ => 10000) (wf w) := sm_le (fun f hf => rd_le hW hf)
  rw [sm_const] at this
  have := Nat.mul_le_mul_right 10000 h2
  omega
section
variable {G : HS} {w : WD} {κ T : Nat} {X lf op p q : Nat → Nat} {cw : Int32 × Int32}
theorem best_ok (d : Nat) (Q : Option AV → HS → Prop) (σ : HS) (z : ZS) (hW : WO G w) (hκ : κ < 3) (hz : RZ G w κ X lf op p q cw σ z) (hop : ∀ f, f < wf w → wfk w f ≠ κ → op f = 0)
    (k0 : (∀ f, f < wf w → 0 < op f → z.2.1 f = 100000000) → Q (some (vI 0)) σ) (k1 : ∀ b, b < wf w → 0 < op b → z.2.1 b < 100000000 → (∀ f, f < wf w → 0 < op f → z.2.1 b ≤ z.2.1 f) → atX11_giveMore_100 d Q σ (nI b) (nI (op b)) (nI (z.2.2.1 b))) :
    ∀ m j, j + m = wf w → ∀ bst : Option Nat, (bst = none → ∀ f, f < j → 0 < op f → z.2.1 f = 100000000) → (∀ b, bst = some b → b < j ∧ 0 < op b ∧ z.2.1 b < 100000000 ∧ ∀ f, f < j → 0 < op f → z.2.1 b ≤ z.2.1 f) → atX11_giveMore_9 d Q σ (nI κ) (oI bst) (nI j) := by
  have h2 := hW.1.2.2.1
  obtain ⟨hs, hg, hl, tD, tE, B, hb⟩ := hz
  intro m
  induction m with
  | zero =>
    intro j hj bst c0 c1
    refine wX11_giveMore_9 d Q σ _ _ _ ?_
    rw [hs 0 0 55 rfl, hW.1.2.2.2.2.2.1]
    refine ⟨fun _ => ?_, fun y => absurd (nI_le (by omega) (by omega)) y⟩
    match bst with
    | none => exact ⟨fun y => absurd y (by decide), fun _ => k0 (fun f hf => c0 rfl f (by omega))⟩
    | some b =>
      obtain ⟨b1, b2, b3, b4⟩ := c1 b rfl
      refine ⟨fun _ => ?_, fun y => absurd (nI_pos' (by omega)) y⟩
      show vp_in (nI b) 10 ∧ _
      refine ⟨vp_in_nI (by omega) (by omega), ?_⟩
      rintro _ rfl
      refine ⟨vp_in_nI (by omega) (by omega), ?_⟩
      rintro _ rfl
      show atX11_giveMore_100 d Q σ (nI b) (σ.1 44 0 (nI b).toNatClampNeg) (σ.1 48 0 (nI b).toNatClampNeg)
      rw [nI_clamp (by omega), (hg.2.1 b (by omega)).1, (hl.2 b (by omega)).2 b3]
      exact k1 b (by omega) b2 b3 (fun f hf => b4 f (by omega))
  | succ m ih =>
    intro j hj bst c0 c1
    have kd := (hW.2.2.1 j (by omega)).2.2.1
    have vx : vp_in (nI j) 10 := vp_in_nI (by omega) (by omega)
    have og := hg.2.1 j (by omega)
    have eb := (hb.2 j (by omega)).2.1
    have skip : (0 < op j → z.2.1 j = 100000000 ∨ ∃ b, bst = some b ∧ z.2.1 b ≤ z.2.1 j) → atX11_giveMore_9 d Q σ (nI κ) (oI bst) (nI (j + 1)) := by
      intro e
      refine ih (j + 1) (by omega) bst (fun y f hf ho => ?_) (fun b y => ?_)
      · by_cases zz : f = j
        · subst zz
          rcases e ho with e | ⟨b, b1, -⟩
          · exact e
          · rw [y] at b1; exact nomatch b1
        · exact c0 y f (by omega) ho
      · obtain ⟨b1, b2, b3, b4⟩ := c1 b y
        refine ⟨by omega, b2, b3, fun f hf ho => ?_⟩
        by_cases zz : f = j
        · subst zz
          rcases e ho with e | ⟨b', q1, q2⟩
          · omega
          · rw [y] at q1
            have := Option.some.inj q1
            subst this
            exact q2
        · exact b4 f (by omega) ho
    have take : 0 < op j → z.2.1 j < 100000000 → (∀ b, bst = some b → z.2.1 j ≤ z.2.1 b) → atX11_giveMore_9 d Q σ (nI κ) (oI (some j)) (nI (j + 1)) := by
      intro o1 e1 e2
      refine ih (j + 1) (by omega) (some j) (fun y => nomatch y) (fun b y => ?_)
      have := Option.some.inj y
      subst this
      refine ⟨by omega, o1, e1, fun f hf ho => ?_⟩
      by_cases zz : f = j
      · subst zz; exact Nat.le_refl _
      · match hb : bst with
        | none =>
          have := c0 rfl f (by omega) ho
          omega
        | some b =>
          have := (c1 b rfl).2.2.2 f (by omega) ho
          have := e2 b rfl
          omega
    refine wX11_giveMore_9 d Q σ _ _ _ ?_
    rw [hs 0 0 55 rfl, hW.1.2.2.2.2.2.1, nI_clamp (show j < 2 ^ 31 by omega), hs 40 0 j rfl, kd.1, og.1, (hl.2 j (by omega)).1]
    refine ⟨fun y => absurd y (nI_ge (by omega) (by omega)), fun _ => ⟨vx, And.symm (pk_eq (wfk w j) κ (fun e => ⟨vx, ?_⟩) (fun e => ?_))⟩⟩
    · refine pk_le (op j) 0 (fun y => ?_) (fun y => ⟨vx, pk_le 100000000 (z.2.1 j) (fun y2 => ?_) (fun y2 => ?_)⟩)
      · rintro _ rfl
        rw [nI_1]
        exact skip (fun y3 => by omega)
      · rintro _ rfl
        rw [nI_1]
        exact skip (fun _ => Or.inl (by omega))
      · match hbs : bst with
        | none =>
          refine ⟨fun _ => ?_, fun y => absurd (by decide) y⟩
          rintro _ rfl
          rw [nI_1]
          exact take y y2 (fun b yb => nomatch yb)
        | some b =>
          obtain ⟨b1, b2, b3, b4⟩ := c1 b rfl
          refine ⟨fun y => absurd y (nI_pos (by omega)), fun _ => ⟨vx, ?_⟩⟩
          show vp_in (nI b) 10 ∧ ((σ.1 46 0 (nI b).toNatClampNeg ≤ nI (z.2.1 j) → _) ∧ (¬ σ.1 46 0 (nI b).toNatClampNeg ≤ nI (z.2.1 j) → _))
          rw [nI_clamp (by omega), (hl.2 b (by omega)).1]
          refine ⟨vp_in_nI (by omega) (by omega), pk_le (z.2.1 b) (z.2.1 j) (fun y3 => ?_) (fun y3 => ?_)⟩
          · rintro _ rfl
            rw [nI_1]
            exact skip (fun _ => Or.inr ⟨b, rfl, y3⟩)
          · rintro _ rfl
            rw [nI_1]
            refine take y y2 (fun b' yb => ?_)
            have := Option.some.inj yb
            subst this
            omega
    · rintro _ rfl
      rw [nI_1]
      refine skip (fun y => ?_)
      have := hop j (by omega) e
      omega
/-- how much can be given along the way -/
theorem g100_ok (d : Nat) (Q : Option AV → HS → Prop) (σ : HS) (z : ZS) (b k : Nat) (hW : WO G w) (hz : RZ G w κ X lf op p q cw σ z) (pv : PV (61 * wn w) (wf w) (rA w κ) (rc w) X lf op p q T) (fx : FX (61 * wn w) (wf w) 100000000 (rA w κ) (rc w) X z.1 z.2.1) (hb : b < wf w) (ho : 0 < op b) (hE : z.2.1 b < 100000000)
    (al : ∀ j, j < k → z.2.2.2 (Lk z.2.2.1 z.2.2.2 b j) ≠ none) (hk : z.2.2.2 (Lk z.2.2.1 z.2.2.2 b k) = none) (hlf : 0 < lf (Lk z.2.2.1 z.2.2.2 b k))
    (go : ∀ n, 0 < n → n ≤ op b → n ≤ lf (Lk z.2.2.1 z.2.2.2 b k) → (∀ j, j < k → n ≤ X (10 * Lk z.2.2.1 z.2.2.2 b j + Fk z.2.2.1 z.2.2.2 b (j + 1))) → atX11_giveMore_188 d Q σ (nI b) (nI n)) :
    ∀ m i n, i + m = k → 0 < n → n ≤ op b → (∀ j, j < i → n ≤ X (10 * Lk z.2.2.1 z.2.2.2 b j + Fk z.2.2.1 z.2.2.2 b (j + 1))) → atX11_giveMore_100 d Q σ (nI b) (nI n) (nI (Lk z.2.2.1 z.2.2.2 b i)) := by
  have h1 := hW.1.1
  have h2 := hW.1.2.2.1
  obtain ⟨hs, hg, hl, tD, tE, B, hbi⟩ := hz
  obtain ⟨D, E, pl, pf⟩ := z
  dsimp only at *
  have ob := (hg.2.1 b hb).2
  intro m
  induction m with
  | zero =>
    intro i n hi n0 n1 n2
    have e : i = k := by omega
    subst e
    obtain ⟨-, l1, -⟩ := pth_L hbi pv fx hb ho hE i al
    have vx : vp_in (nI (Lk pl pf b i)) 488 := vp_in_nI (by omega) (by omega)
    have lg := hg.1 _ l1
    have bf : σ.1 47 0 (Lk pl pf b i) = -1 := by
      rw [(hl.1 _ l1).2]
      dsimp only
      rw [hk]
      rfl
    refine wX11_giveMore_100 d Q σ _ _ _ ?_
    rw [nI_clamp (show Lk pl pf b i < 2 ^ 31 by omega), bf, lg.1]
    refine ⟨vx, fun _ => ⟨vx, pk_le n (lf (Lk pl pf b i)) (fun y => go n n0 n1 y n2) (fun y => ⟨vx, go _ hlf (by omega) (Nat.le_refl _) (fun j hj => by have := n2 j hj; omega)⟩)⟩, fun y => absurd (by decide) y⟩
  | succ m ih =>
    intro i n hi n0 n1 n2
    have al2 : ∀ j, j < i → pf (Lk pl pf b j) ≠ none := fun j hj => al j (by omega)
    have al3 : ∀ j, j < i + 1 → pf (Lk pl pf b j) ≠ none := fun j hj => al j (by omega)
    obtain ⟨-, l1, -⟩ := pth_L hbi pv fx hb ho hE i al2
    obtain ⟨a1, a2, a3, a4, a5⟩ := pth_n hbi pv fx hb ho hE i al2 (al i (by omega))
    obtain ⟨-, l2, -, l3, -⟩ := pth_L hbi pv fx hb ho hE (i + 1) al3
    have vx : vp_in (nI (Lk pl pf b i)) 488 := vp_in_nI (by omega) (by omega)
    have vf : vp_in (nI (Fk pl pf b (i + 1))) 10 := vp_in_nI (by omega) (by omega)
    have bf : σ.1 47 0 (Lk pl pf b i) = nI (Fk pl pf b (i + 1)) := by
      rw [(hl.1 _ l1).2]
      dsimp only
      rw [a1]
      rfl
    have bl : σ.1 48 0 (Fk pl pf b (i + 1)) = nI (Lk pl pf b (i + 1)) := by
      rw [(hl.2 _ a3).2 l3]
      rfl
    have ej : (10 : Int32) * nI (Lk pl pf b i) + nI (Fk pl pf b (i + 1)) = nI (10 * Lk pl pf b i + Fk pl pf b (i + 1)) := by rw [show (10 : Int32) = nI 10 from rfl, pk_mul, nI_add]
    have hx := hg.2.2.1 _ _ l1 a3
    have vj : vp_in (nI (10 * Lk pl pf b i + Fk pl pf b (i + 1))) 4880 := vp_in_nI (by omega) (by omega)
    refine wX11_giveMore_100 d Q σ _ _ _ ?_
    rw [nI_clamp (show Lk pl pf b i < 2 ^ 31 by omega), bf]
    refine ⟨vx, fun y => absurd y (nI_pos (by omega)), fun _ => ⟨vx, ?_⟩⟩
    rintro _ rfl
    rw [ej, nI_clamp (show 10 * Lk pl pf b i + Fk pl pf b (i + 1) < 2 ^ 31 by omega), nI_clamp (show Fk pl pf b (i + 1) < 2 ^ 31 by omega), hx.1, bl]
    refine ⟨vj, pk_le n (X (10 * Lk pl pf b i + Fk pl pf b (i + 1))) (fun y => ⟨vf, ?_⟩) (fun y => ⟨vj, ?_⟩)⟩
    · rintro _ rfl
      refine ih (i + 1) n (by omega) n0 n1 (fun j hj => ?_)
      by_cases zz : j = i
      · subst zz; exact y
      · exact n2 j (by omega)
    · rintro _ rfl
      refine ⟨vf, ?_⟩
      rintro _ rfl
      refine ih (i + 1) _ (by omega) a2 (by omega) (fun j hj => ?_)
      by_cases zz : j = i
      · subst zz; exact Nat.le_refl _
      · have := n2 j (by omega)
        omega
end
