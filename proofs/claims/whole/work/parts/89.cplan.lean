/-! the class: plan -/
section
variable {G : HS} {w : WD} {κ nP nE : Nat} {y : Nat → Nat → Option Nat} {s dm : Nat → Nat}
theorem p41_0 (d : Nat) (Q : Option AV → HS → Prop) (σ : HS) (x : Int32) (hd : 1 ≤ d) (k : atX6_plan_12 d Q σ (nI (κ + 1))) : atX6_plan_41 d Q σ (nI κ) 0 x := by
  refine wX6_plan_41 d Q σ _ _ _ hd ⟨fun _ => ?_, fun _ => ⟨fun _ => ?_, fun z => absurd rfl z⟩⟩
  · rintro _ rfl
    rw [nI_1]
    exact k
  · rintro _ rfl
    rw [nI_1]
    exact k
theorem p41_ok (d : Nat) (Q : Option AV → HS → Prop) (F0 C0 : Nat) (hd : 3 ≤ d) (hy : HY nP nE y) (hdm : ∀ e, e < nE → dm e ≤ 10000) (k : ∀ σ2 F C, Sim G σ2 → KC σ2 (nI (F0 + F), nI (C0 + C)) → BST nP nE (yA y) (yc y) s dm F C → atX6_plan_12 d Q σ2 (nI (κ + 1))) :
    ∀ m r, r + m = 100000 → ∀ σ X lf op p q T, Sim G σ → KG σ nP nE y X lf op (nI (F0 + ttl nP nE X), nI (C0 + cst nP nE (yc y) X)) → FC nP nE s dm X lf op → PV nP nE (yA y) (yc y) X lf op p q T → T ≤ 1000000 → r ≤ ttl nP nE X → atX6_plan_41 d Q σ (nI κ) 1 (nI r) := by
  obtain ⟨h80, h10, h200⟩ := id hy
  have sd : sm dm nE ≤ 100000 := by
    have : sm dm nE ≤ sm (fun _ => 10000) nE := sm_le (fun e he => hdm e he)
    rw [sm_const] at this
    have := Nat.mul_le_mul_right 10000 h10
    omega
  intro m
  induction m with
  | zero =>
    intro r hr σ X lf op p q T hs hg fc pv hT ht
    have e : r = 100000 := by omega
    subst e
    have t1 := tot_fc fc
    refine wX6_plan_41 d Q σ _ _ _ (by omega) ⟨fun _ => ?_, fun z => absurd (by decide) z⟩
    rintro _ rfl
    rw [nI_1]
    exact k σ _ _ hs hg.2.2.2.2 (best_full pv fc (by omega))
  | succ m ih =>
    intro r hr σ X lf op p q T hs hg fc pv hT ht
    refine wX6_plan_41 d Q σ _ _ _ (by omega) ⟨fun z => absurd z (nI_ge (a := r) (b := 100000) (by omega) (by omega)), fun _ => ⟨fun z => absurd z (by decide), fun _ => ?_⟩⟩
    refine cheap_ok (d - 1) σ _ (by omega) hy pv hT hs hg (fun σ2 z z2 fx no => ⟨_, rfl, fun _ => ?_, fun w => absurd rfl w⟩) (fun σ2 z b z2 fx b1 b2 b3 b4 => ⟨_, rfl, fun w => absurd w (oI_m1 (by omega)), fun _ => ?_⟩)
    · rintro _ rfl
      obtain ⟨s2, g2, l2, tD, tE, B, hb⟩ := z2
      refine p41_0 d Q σ2 _ (by omega) (k σ2 _ _ s2 g2.2.2.2.2 (best_big (M := 200) (cend (Δ := 100000000) hb pv fx (fun l f hl hf _ => hy.c hl hf) (by omega) (by omega) no) fc (fun l f hl hf _ => hy.c hl hf) ?_))
      have := Nat.mul_le_mul_left 200 sd
      omega
    · refine galong_ok (d - 1) σ2 _ z b _ _ (by omega) hy hdm z2 fc pv fx b1 b2 b3 b4 (fun σ3 X3 lf3 op3 p3 q3 T3 n e n0 s3 g3 fc3 pv3 t3 so ec => ⟨rfl, ?_⟩)
      rintro _ rfl
      rw [nI_1]
      have t1 := tot_fc fc
      have t2 := tot_fc fc3
      refine ih (r + 1) (by omega) σ3 X3 lf3 op3 p3 q3 T3 s3 ?_ fc3 pv3 t3 (by omega)
      rw [show F0 + ttl nP nE X3 = F0 + ttl nP nE X + n by omega, ec, ← Nat.add_assoc]
      exact g3
end
/-! one kind, in both -/
def mA (w : WD) (a : FA) (l e : Nat) : Prop := ∃ x, wwy w (l / 61) (a.1 e) = some x ∧ wm w + (x + 29) / 30 ≤ a.2.1 e ∧ l % 61 ≤ a.2.2.1 e
def mc (w : WD) (a : FA) (l e : Nat) : Nat := (wwy w (l / 61) (a.1 e)).getD 0
section
variable {G : HS} {w : WD} {κ nP nE : Nat} {a : FA} {b : PB} {ψ g : Nat → Nat}
theorem col1 (hn : nE ≤ 10) (hg : GF w κ (wf w) nE ψ a) : ∀ f, f < wf w → ψ f < nE → ∀ l, l < 61 * wn w → (mA w a l (ψ f) ↔ rA w κ l f) ∧ (rA w κ l f → mc w a l (ψ f) = rc w l f) := by
  have n10 := hg.1
  intro f hf hp l hl
  rcases hg.2.1 f hf with ⟨-, h1, h2, h3, h4, h5, h6⟩ | ⟨h1, h2⟩
  · unfold mA rA mc rc
    rw [h4, h5, h6]
    refine ⟨⟨fun ⟨x, x1, x2, x3⟩ => ⟨h1, x, x1, x2, by omega⟩, fun ⟨_, x, x1, x2, x3⟩ => ⟨x, x1, x2, by omega⟩⟩, fun _ => rfl⟩
  · exfalso
    omega
theorem col2 (hg : GF w κ (wf w) nE ψ a) : ∀ f l, f < wf w → l < 61 * wn w → rA w κ l f → ψ f < nE := by
  intro f l hf hl ra
  rcases hg.2.1 f hf with ⟨h1, -⟩ | ⟨-, h2⟩
  · exact h1
  · obtain ⟨r1, x, x1, x2, x3⟩ := ra
    exact absurd ⟨r1, by omega, by omega⟩ h2
theorem dY_iff {P e x : Nat} : dY w a b P e = some x ↔ wwy w (b.1 P) (a.1 e) = some x ∧ wm w + (x + 29) / 30 ≤ a.2.1 e ∧ b.2.1 P ≤ a.2.2.1 e := by
  unfold dY
  match q : wwy w (b.1 P) (a.1 e) with
  | none => exact ⟨fun z => (nomatch z), fun z => (nomatch z.1)⟩
  | some v =>
    dsimp only
    by_cases c : wm w + (v + 29) / 30 ≤ a.2.1 e ∧ b.2.1 P ≤ a.2.2.1 e
    · rw [if_pos c]
      refine ⟨fun z => ?_, fun z => z.1⟩
      have := Option.some.inj z
      subst this
      exact ⟨rfl, c⟩
    · rw [if_neg c]
      refine ⟨fun z => (nomatch z), fun z => ?_⟩
      have := Option.some.inj z.1
      subst this
      exact absurd z.2 c
theorem row1 (hp : GP w κ nE a.2.2.1 (wn w) 61 nP g b) : ∀ l, l < 61 * wn w → g l < nP → ∀ e, e < nE → (yA (dY w a b) (g l) e ↔ mA w a l e) ∧ (mA w a l e → yc (dY w a b) (g l) e = mc w a l e) := by
  intro l hl hgl e he
  rcases hp.2.1 l hl with ⟨-, -, h3, h4⟩ | ⟨h1, -⟩
  · have i := h4 e he
    have fw : mA w a l e → ∃ x, dY w a b (g l) e = some x ∧ wwy w (l / 61) (a.1 e) = some x := by
      intro ⟨x, x1, x2, x3⟩
      exact ⟨x, dY_iff.mpr ⟨by rw [h3]; exact x1, x2, i.mpr x3⟩, x1⟩
    refine ⟨⟨fun ⟨x, hx⟩ => ?_, fun z => ?_⟩, fun z => ?_⟩
    · obtain ⟨x1, x2, x3⟩ := dY_iff.mp hx
      rw [h3] at x1
      exact ⟨x, x1, x2, i.mp x3⟩
    · obtain ⟨x, hx, -⟩ := fw z
      exact ⟨x, hx⟩
    · obtain ⟨x, hx, hx2⟩ := fw z
      unfold yc mc
      rw [hx, hx2]
  · exfalso
    have := hp.1
    omega
theorem row2 (hp : GP w κ nE a.2.2.1 (wn w) 61 nP g b) : ∀ l e, l < 61 * wn w → e < nE → mA w a l e → 0 < rs w κ l → g l < nP := by
  intro l e hl he ⟨x, x1, x2, x3⟩ hr
  rcases hp.2.1 l hl with ⟨h1, -⟩ | ⟨-, h2⟩
  · exact h1
  · exact absurd x3 (h2 (Or.inl (by omega)) hr e he)
/-- what is best is the same in both -/
theorem both_best {F C F2 C2 : Nat} (hW : WO G w) (hn : nE ≤ 10) (hg : GF w κ (wf w) nE ψ a) (hp : GP w κ nE a.2.2.1 (wn w) 61 nP g b) (h : BST (61 * wn w) (wf w) (rA w κ) (rc w) (rs w κ) (rd w κ) F C) (h2 : BST nP nE (yA (dY w a b)) (yc (dY w a b)) b.2.2 a.2.2.2 F2 C2) : F = F2 ∧ C = C2 := by
  refine (h.g hW.1.2.2.1).eq (h2.g hn) (fun y hy => ?_) (fun y2 hy2 => ?_)
  · obtain ⟨y1, a1, a2, a3⟩ := mrg_dn (nS := wf w) (nP := nE) (nF := 61 * wn w) (A := fun f l => rA w κ l f) (A2 := fun e l => mA w a l e) (c := fun f l => rc w l f) (c2 := fun e l => mc w a l e) (s := rd w κ) (s2 := a.2.2.2) (dm := rs w κ) (g := ψ) (col1 hn hg) (fun f l hf hl ra _ _ => col2 hg f l hf hl ra) hg.2.2.1 hy.tr
    obtain ⟨y3, b1, b2, b3⟩ := mrg_dn (nS := 61 * wn w) (nP := nP) (nF := nE) (A := mA w a) (A2 := yA (dY w a b)) (c := mc w a) (c2 := yc (dY w a b)) (s := rs w κ) (s2 := b.2.2) (dm := a.2.2.2) (g := g) (row1 hp) (fun l e hl he ma hr _ => row2 hp l e hl he ma hr) hp.2.2.1 a1.tr
    refine ⟨y3, b1, ?_, ?_⟩
    · rw [b2, tt_tr nE (61 * wn w) y1, a2, tt_tr (61 * wn w) (wf w) y]
    · rw [b3]
      have e1 := ctt_tr nE (61 * wn w) (fun e l => mc w a l e) y1
      have e2 := ctt_tr (61 * wn w) (wf w) (rc w) y
      exact e1.trans (a3.trans e2)
  · obtain ⟨y3, b1, b2, b3⟩ := mrg_up (nS := 61 * wn w) (nP := nP) (nF := nE) (A := mA w a) (A2 := yA (dY w a b)) (c := mc w a) (c2 := yc (dY w a b)) (s := rs w κ) (s2 := b.2.2) (dm := a.2.2.2) (g := g) (row1 hp) hp.2.2.1 hy2
    obtain ⟨y1, a1, a2, a3⟩ := mrg_up (nS := wf w) (nP := nE) (nF := 61 * wn w) (A := fun f l => rA w κ l f) (A2 := fun e l => mA w a l e) (c := fun f l => rc w l f) (c2 := fun e l => mc w a l e) (s := rd w κ) (s2 := a.2.2.2) (dm := rs w κ) (g := ψ) (col1 hn hg) hg.2.2.1 b1.tr
    refine ⟨fun l f => y1 f l, a1.tr, ?_, ?_⟩
    · rw [tt_tr (wf w) (61 * wn w) y1, a2, tt_tr (61 * wn w) nE y3, b2]
    · have e1 := ctt_tr (wf w) (61 * wn w) (fun f l => rc w l f) y1
      have e2 := ctt_tr (61 * wn w) nE (mc w a) y3
      exact e1.trans (a3.trans (e2.trans b3))
end
def CQ (w : WD) (κ F2 C2 : Nat) : Prop := ∀ F C, BST (61 * wn w) (wf w) (rA w κ) (rc w) (rs w κ) (rd w κ) F C → F = F2 ∧ C = C2
theorem pkind_ok {G : HS} {w : WD} {κ : Nat} (d : Nat) (Q : Option AV → HS → Prop) (σ : HS) (F0 C0 : Nat) (hd : 3 ≤ d) (hW : WO G w) (hκ : κ < 3) (hs : Sim G σ) (hc : KC σ (nI F0, nI C0)) (k : ∀ σ2 F C, Sim G σ2 → KC σ2 (nI (F0 + F), nI (C0 + C)) → CQ w κ F C → atX6_plan_12 d Q σ2 (nI (κ + 1))) : atX6_plan_12 d Q σ (nI κ) := by
  have h1 := hW.1.1
  have h2 := hW.1.2.2.1
  refine wX6_plan_12 d Q σ _ (by omega) ⟨fun z => absurd z (nI_ge (a := κ) (b := 3) hκ (by omega)), fun _ => ?_⟩
  refine gfeast_ok (d - 1) σ _ hW hκ hs hc (fun σ1 nE ψ a s1 c1 f1 gf => ⟨rfl, ?_⟩)
  have hn : nE ≤ 10 := by
    have := gf.1
    omega
  refine gpile_ok (d - 1) σ1 _ (by omega) hW hκ hn (fun e he => (gf.2.2.2 e he).2.2.1) s1 c1 f1 (fun σ2 nP g b gs => ⟨rfl, ?_⟩)
  obtain ⟨s2, c2, f2, p2, gp⟩ := gs
  refine fdays_ok (d - 1) σ2 _ (by omega) hW hn gp.1 (fun e he => ⟨(gf.2.2.2 e he).1, (gf.2.2.2 e he).2.1, (gf.2.2.2 e he).2.2.1⟩) (fun P hP => gp.2.2.2 P hP) ⟨s2, c2, f2, p2, fun P e o he => by omega⟩ (fun σ3 fs => ⟨rfl, ?_⟩)
  obtain ⟨s3, c3, f3, p3, d3⟩ := fs
  have hy : HY nP nE (dY w a b) := by
    refine ⟨gp.1, hn, fun P e x hP he q => ?_⟩
    obtain ⟨q1, -⟩ := dY_iff.mp q
    exact (hW.2.2.2.1 (b.1 P) (a.1 e) (by have := (gp.2.2.2 P hP).1; omega) (by have := (gf.2.2.2 e he).1; omega)).2.2 x q1
  have lb : ∀ P, P < nP → b.2.2 P ≤ 100000000 := by
    intro P hP
    rw [gp.2.2.1 P hP]
    have : sm (fun l => if g l = P then rs w κ l else 0) (61 * wn w) ≤ sm (fun _ => 100000) (61 * wn w) := sm_le (fun l hl => by
      by_cases z : g l = P
      · rw [if_pos z]
        exact (hW.2.2.2.2.1 _ (show (l / 61 * 3 + κ) * 61 + l % 61 < 1464 by omega)).2
      · rw [if_neg z]
        exact Nat.zero_le _)
    rw [sm_const] at this
    have := Nat.mul_le_mul_right 100000 (show 61 * wn w ≤ 488 by omega)
    omega
  refine p41_ok (s := b.2.2) (dm := a.2.2.2) d Q F0 C0 hd hy (fun e he => (gf.2.2.2 e he).2.2.2) (fun σ4 F C s4 c4 bs => k σ4 F C s4 c4 (fun F1 C1 h => both_best hW hn gf gp h bs)) 100000 0 (by omega) σ3 (fun _ => 0) b.2.2 a.2.2.2 (fun _ => 0) (fun _ => 0) 0 s3 ⟨⟨p3.1, f3.1⟩, fun P e hP he => ?_, fun P hP => ⟨(p3.2 P hP).2.2, lb P hP⟩, fun e he => ⟨(f3.2 e he).2.2.2, (gf.2.2.2 e he).2.2.2⟩, ?_⟩ ⟨fun l _ => by rw [sm_0]; rfl, fun f _ => by rw [sm_0]; rfl⟩ ⟨fun _ _ _ _ _ => Nat.zero_le _, fun _ _ _ _ z => absurd z (Nat.lt_irrefl 0), fun _ _ => ⟨Nat.le_refl _, fun _ => rfl⟩, fun _ _ => ⟨Nat.le_refl _, fun _ => rfl⟩⟩ (Nat.zero_le _) (Nat.zero_le _)
  · obtain ⟨q1, q2⟩ := d3 P e (Or.inl hP) he
    exact ⟨q1, q2, Nat.zero_le _⟩
  · rw [ttl0, cst0]
    exact c3
theorem plan_ok {G : HS} {w : WD} (d : Nat) (σ : HS) (Q : Option AV → HS → Prop) (hd : 3 ≤ d) (hW : WO G w) (hs : Sim G σ) (k : ∀ (σ2 : HS) (F C : Nat → Nat), Sim G σ2 → (∀ κ, κ < 3 → CQ w κ (F κ) (C κ)) → KC σ2 (nI (F 0 + F 1 + F 2), nI (C 0 + C 1 + C 2)) → Q none σ2) : MT d mX6_plan [vR 10 0, vR 2 0, vR 9 0] σ Q := by
  refine wX6_plan d σ Q ?_
  rintro _ rfl _ rfl
  refine pkind_ok (κ := 0) d Q _ 0 0 hd hW (by omega) ((hs.up rfl).up rfl) ⟨by rw [up_f (by decide), up_same]; rfl, by rw [up_same]; rfl⟩ (fun σ1 F1 C1 s1 c1 b1 => ?_)
  refine pkind_ok (κ := 1) d Q σ1 (0 + F1) (0 + C1) hd hW (by omega) s1 c1 (fun σ2 F2 C2 s2 c2 b2 => ?_)
  refine pkind_ok (κ := 2) d Q σ2 (0 + F1 + F2) (0 + C1 + C2) hd hW (by omega) s2 c2 (fun σ3 F3 C3 s3 c3 b3 => ?_)
  refine wX6_plan_12 d Q σ3 _ (by omega) ⟨fun _ => ?_, fun z => absurd (by decide) z⟩
  refine k σ3 (fun κ => if κ = 0 then F1 else if κ = 1 then F2 else F3) (fun κ => if κ = 0 then C1 else if κ = 1 then C2 else C3) s3 (fun κ hκ => ?_) ?_
  · have : κ = 0 ∨ κ = 1 ∨ κ = 2 := by omega
    rcases this with rfl | rfl | rfl
    · exact b1
    · exact b2
    · exact b3
  · rw [Nat.zero_add, Nat.zero_add] at c3
    exact c3
theorem st_fed : Step mX10_fed mX11_fed [] := by
  intro σ hI
  obtain ⟨w, hW⟩ := hI.world
  refine wX10_fed 60 σ _ (by omega) (plan_ok 59 σ _ (by omega) hW Sim.rf (fun σ1 F C s1 cq kc => ⟨rfl, _, rfl, ?_⟩))
  refine wX11_fed 60 σ1 _ (by omega) (rfeed_ok 59 σ1 _ (by omega) hW s1 (fun σ2 F2 C2 s2 bs f2 c2 => ⟨rfl, ?_, s2.inv hI⟩))
  rw [f2, kc.1, (cq 0 (by omega) _ _ (bs 0 (by omega))).1, (cq 1 (by omega) _ _ (bs 1 (by omega))).1, (cq 2 (by omega) _ _ (bs 2 (by omega))).1]
theorem st_carried : Step mX10_carried mX11_carried [] := by
  intro σ hI
  obtain ⟨w, hW⟩ := hI.world
  refine wX10_carried 60 σ _ (by omega) (plan_ok 59 σ _ (by omega) hW Sim.rf (fun σ1 F C s1 cq kc => ⟨rfl, _, rfl, ?_⟩))
  refine wX11_carried 60 σ1 _ (by omega) (rfeed_ok 59 σ1 _ (by omega) hW s1 (fun σ2 F2 C2 s2 bs f2 c2 => ⟨rfl, ?_, s2.inv hI⟩))
  rw [c2, kc.2, (cq 0 (by omega) _ _ (bs 0 (by omega))).2, (cq 1 (by omega) _ _ (bs 1 (by omega))).2, (cq 2 (by omega) _ _ (bs 2 (by omega))).2]
