/-! the class: findDays, and what stands when plans are made -/
def dY (w : WD) (a : FA) (b : PB) (P e : Nat) : Option Nat :=
  match wwy w (b.1 P) (a.1 e) with
  | none => none
  | some x => if wm w + (x + 29) / 30 ≤ a.2.1 e ∧ b.2.1 P ≤ a.2.2.1 e then some x else none
def yA (y : Nat → Nat → Option Nat) (P e : Nat) : Prop := ∃ x, y P e = some x
def yc (y : Nat → Nat → Option Nat) (P e : Nat) : Nat := (y P e).getD 0
theorem yA.c {y : Nat → Nat → Option Nat} {P e : Nat} (h : yA y P e) : oI (y P e) = nI (yc y P e) := by
  obtain ⟨x, hx⟩ := h
  unfold yc
  rw [hx]
  rfl
theorem yA.no {y : Nat → Nat → Option Nat} {P e : Nat} (h : ¬ yA y P e) : y P e = none := by
  match q : y P e with
  | none => rfl
  | some x => exact absurd ⟨x, q⟩ h
theorem oI_m1 {x : Nat} (hx : x < 2 ^ 31) : ¬ oI (some x) = -1 := by
  intro z
  have a : (nI x).toInt = (x : Int) := nI_toInt hx
  have b : (nI x).toInt = (-1 : Int32).toInt := congrArg Int32.toInt z
  have e : (-1 : Int32).toInt = -1 := rfl
  omega
/-- cells of the planner other than these rows -/
theorem KF.upd {σ : HS} {nE k i s : Nat} {a : FA} {x : Int32} (h : KF σ nE a) (h1 : (10 : Nat) ≠ k) (h2 : (85 : Nat) ≠ k) (h3 : (86 : Nat) ≠ k) (h4 : (87 : Nat) ≠ k) (h5 : (88 : Nat) ≠ k) : KF (up σ k i s x) nE a := by
  refine ⟨by rw [up_ne h1]; exact h.1, fun e he => ?_⟩
  rw [up_ne h2, up_ne h3, up_ne h4, up_ne h5]
  exact h.2 e he
theorem KPl.upd {σ : HS} {nP k i s : Nat} {b : PB} {x : Int32} (h : KPl σ nP b) (h1 : (10 : Nat) ≠ k) (h2 : (91 : Nat) ≠ k) (h3 : (92 : Nat) ≠ k) (h4 : (93 : Nat) ≠ k) : KPl (up σ k i s x) nP b := by
  refine ⟨by rw [up_ne h1]; exact h.1, fun e he => ?_⟩
  rw [up_ne h2, up_ne h3, up_ne h4]
  exact h.2 e he
theorem KC.upd {σ : HS} {k i s : Nat} {cw : Int32 × Int32} {x : Int32} (h : KC σ cw) (h1 : (10 : Nat) ≠ k) : KC (up σ k i s x) cw := by
  unfold KC
  rw [up_ne h1]
  exact h
section
variable {G : HS} {w : WD} {κ nE nP : Nat} {a : FA} {b : PB} {cw : Int32 × Int32}
def FS (G : HS) (w : WD) (nE nP : Nat) (a : FA) (b : PB) (cw : Int32 × Int32) (σ : HS) (P0 e0 : Nat) : Prop := Sim G σ ∧ KC σ cw ∧ KF σ nE a ∧ KPl σ nP b ∧ ∀ P e, (P < P0 ∨ (P = P0 ∧ e < e0)) → e < nE → σ.1 96 0 (10 * P + e) = oI (dY w a b P e) ∧ σ.1 97 0 (10 * P + e) = nI 0
theorem FS.next {P e j : Nat} {σ : HS} {v : Option Nat} (hn : nE ≤ 10) (h : FS G w nE nP a b cw σ P e) (he : e < nE) (hv : dY w a b P e = v) (hj : j = 10 * P + e) : FS G w nE nP a b cw (up (up σ 96 0 j (oI v)) 97 0 j 0) P (e + 1) := by
  subst hj
  obtain ⟨hs, hc, hf, hp, h5⟩ := h
  refine ⟨(hs.up rfl).up rfl, (hc.upd (by decide)).upd (by decide), (hf.upd (by decide) (by decide) (by decide) (by decide) (by decide)).upd (by decide) (by decide) (by decide) (by decide) (by decide), (hp.upd (by decide) (by decide) (by decide) (by decide)).upd (by decide) (by decide) (by decide) (by decide), fun P2 e2 h2 he2 => ?_⟩
  rw [up_ne (show (96 : Nat) ≠ 97 by decide)]
  by_cases z : 10 * P2 + e2 = 10 * P + e
  · have : P2 = P ∧ e2 = e := by omega
    obtain ⟨rfl, rfl⟩ := this
    rw [up_same, up_same, hv]
    exact ⟨rfl, rfl⟩
  · rw [up_f z, up_f z, up_ne (show (97 : Nat) ≠ 96 by decide)]
    exact h5 P2 e2 (by omega) he2
theorem fd12_ok (d : Nat) (Q : Option AV → HS → Prop) (hd : 1 ≤ d) (hW : WO G w) (hn : nE ≤ 10) (hp : nP ≤ 80) (ho : ∀ e, e < nE → a.1 e < wn w ∧ a.2.1 e ≤ 2000 ∧ a.2.2.1 e ≤ 60) (hb : ∀ P, P < nP → b.1 P < wn w ∧ b.2.1 P ≤ 60) (P : Nat) (hP : P < nP) (k : ∀ σ2, FS G w nE nP a b cw σ2 P nE → atX6_findDays_2 d Q σ2 (nI (P + 1))) : ∀ m e, e + m = nE → ∀ σ, FS G w nE nP a b cw σ P e → atX6_findDays_12 d Q σ (nI P) (nI e) := by
  have h1 := hW.1.1
  have h3 := hW.1.2.1
  intro m
  induction m with
  | zero =>
    intro e he σ h
    have q : e = nE := by omega
    subst q
    refine wX6_findDays_12 d Q σ _ _ hd ?_
    rw [h.2.2.1.1]
    refine ⟨fun _ => ?_, fun y => absurd (nI_le (Nat.le_refl _) (by omega)) y⟩
    rintro _ rfl
    rw [nI_1]
    exact k σ h
  | succ m ih =>
    intro e he σ h
    obtain ⟨o1, o2, o3⟩ := ho e (by omega)
    obtain ⟨b1, b2⟩ := hb P hP
    obtain ⟨c1, c2, c3, -⟩ := h.2.2.1.2 e (by omega)
    obtain ⟨p1, p2, -⟩ := h.2.2.2.1.2 P hP
    have wy := hW.2.2.2.1 (b.1 P) (a.1 e) (by omega) (by omega)
    have vP : vp_in (nI P) 80 := vp_in_nI (by omega) (by omega)
    have ve : vp_in (nI e) 10 := vp_in_nI (by omega) (by omega)
    have ej : nI P * 10 + nI e = nI (10 * P + e) := by rw [show (10 : Int32) = nI 10 from rfl, pk_mul, nI_add, Nat.mul_comm]
    have vj : vp_in (nI (10 * P + e)) 800 := vp_in_nI (by omega) (by omega)
    have go : ∀ v, dY w a b P e = v → ∀ j, j = 10 * P + e → atX6_findDays_12 d Q (up (up σ 96 0 j (oI v)) 97 0 j 0) (nI P) (nI (e + 1)) := fun v hv j hj => ih (e + 1) (by omega) _ (h.next hn (by omega) hv hj)
    refine wX6_findDays_12 d Q σ _ _ hd ?_
    rw [h.2.2.1.1, nI_clamp (show P < 2 ^ 31 by omega), nI_clamp (show e < 2 ^ 31 by omega), p1, c1, nI_clamp (show b.1 P < 2 ^ 31 by omega), nI_clamp (show a.1 e < 2 ^ 31 by omega), h.1 61 _ _ rfl, wy.2.1, c2, h.1 2 0 4 rfl, hW.1.2.2.2.2.1.2]
    refine ⟨fun y => absurd y (nI_ge (by omega) (by omega)), fun _ => ⟨vP, vp_in_nI (by omega) (by omega), ve, vp_in_nI (by omega) (by omega), ?_⟩⟩
    rintro _ rfl
    refine ⟨ve, ?_⟩
    match q : wwy w (b.1 P) (a.1 e) with
    | none =>
      have dn : dY w a b P e = none := by
        unfold dY
        rw [q]
      have g86 : ∀ s0 s1, atX6_findDays_86 d Q σ (nI P) (nI e) (oI none) s0 s1 := by
        intro s0 s1
        refine wX6_findDays_86 d Q σ _ _ _ _ _ hd ⟨fun _ => ?_, fun y => absurd rfl y⟩
        rw [ej, nI_clamp (show 10 * P + e < 2 ^ 31 by omega)]
        refine ⟨vj, ?_⟩
        rintro _ rfl
        refine ⟨vj, ?_⟩
        rintro _ rfl _ rfl
        rw [nI_1]
        exact go none dn _ rfl
      have g64 : ∀ s0, atX6_findDays_64 d Q σ (nI P) (nI e) (oI none) s0 := fun s0 => wX6_findDays_64 d Q σ _ _ _ _ ⟨vP, ve, fun _ => g86 _ _, fun _ => g86 _ _⟩
      exact ⟨fun _ => g64 _, fun _ => g64 _⟩
    | some x =>
      have x2 := wy.2.2 x q
      have ex : nI (wm w) + (oI (some x) + 30 - 1) / 30 = nI (wm w + (x + 29) / 30) := by
        show nI (wm w) + (nI x + nI 30 - nI 1) / nI 30 = _
        rw [nI_add, pk_sub (by omega), pk_div (by omega) (by omega) (by omega), nI_add, show x + 30 - 1 = x + 29 by omega]
      rw [ex]
      have g86 : ∀ s0 s1 : Nat, s0 ≤ 1 → s1 ≤ 1 → (s0 = 1 ↔ wm w + (x + 29) / 30 ≤ a.2.1 e) → (s1 = 1 ↔ b.2.1 P ≤ a.2.2.1 e) → atX6_findDays_86 d Q σ (nI P) (nI e) (oI (some x)) (nI s0) (nI s1) := by
        intro s0 s1 l0 l1 i0 i1
        have no : ¬ (s0 = 1 ∧ s1 = 1) → dY w a b P e = none := by
          intro z
          unfold dY
          rw [q]
          exact if_neg (fun y => z ⟨i0.mpr y.1, i1.mpr y.2⟩)
        refine wX6_findDays_86 d Q σ _ _ _ _ _ hd ⟨fun y => absurd y (oI_m1 (by omega)), fun _ => ?_⟩
        rw [ej, nI_clamp (show 10 * P + e < 2 ^ 31 by omega)]
        refine pk_eq s0 0 (fun z => ⟨vj, ?_⟩) (fun z => pk_eq s1 0 (fun z1 => ⟨vj, ?_⟩) (fun z1 => ⟨vj, ?_⟩))
        · rintro _ rfl
          refine ⟨vj, ?_⟩
          rintro _ rfl _ rfl
          rw [nI_1]
          exact go none (no (by omega)) _ rfl
        · rintro _ rfl
          refine ⟨vj, ?_⟩
          rintro _ rfl _ rfl
          rw [nI_1]
          exact go none (no (by omega)) _ rfl
        · rintro _ rfl
          refine ⟨vj, ?_⟩
          rintro _ rfl _ rfl
          rw [nI_1]
          refine go (some x) ?_ _ rfl
          unfold dY
          rw [q]
          exact if_pos ⟨i0.mp (by omega), i1.mp (by omega)⟩
      have g64 : ∀ s0 : Nat, s0 ≤ 1 → (s0 = 1 ↔ wm w + (x + 29) / 30 ≤ a.2.1 e) → atX6_findDays_64 d Q σ (nI P) (nI e) (oI (some x)) (nI s0) := by
        intro s0 l0 i0
        refine wX6_findDays_64 d Q σ _ _ _ _ ?_
        rw [nI_clamp (show P < 2 ^ 31 by omega), nI_clamp (show e < 2 ^ 31 by omega), p2, c3]
        refine ⟨vP, ve, pk_lt (a.2.2.1 e) (b.2.1 P) (fun z => g86 s0 0 l0 (by omega) i0 (by omega)) (fun z => g86 s0 1 l0 (by omega) i0 (by omega))⟩
      exact pk_lt (a.2.1 e) (wm w + (x + 29) / 30) (fun z => g64 0 (by omega) (by omega)) (fun z => g64 1 (by omega) (by omega))
theorem fdays_ok (d : Nat) (σ : HS) (Q : Option AV → HS → Prop) (hd : 1 ≤ d) (hW : WO G w) (hn : nE ≤ 10) (hp : nP ≤ 80) (ho : ∀ e, e < nE → a.1 e < wn w ∧ a.2.1 e ≤ 2000 ∧ a.2.2.1 e ≤ 60) (hb : ∀ P, P < nP → b.1 P < wn w ∧ b.2.1 P ≤ 60) (h : FS G w nE nP a b cw σ 0 0) (k : ∀ σ2, FS G w nE nP a b cw σ2 nP 0 → Q none σ2) : MT d mX6_findDays [vR 10 0, vR 2 0] σ Q := by
  have key : ∀ m P, P + m = nP → ∀ σ, FS G w nE nP a b cw σ P 0 → atX6_findDays_2 d Q σ (nI P) := by
    intro m
    induction m with
    | zero =>
      intro P hP σ h
      have q : P = nP := by omega
      subst q
      refine wX6_findDays_2 d Q σ _ ?_
      rw [h.2.2.2.1.1]
      exact ⟨fun _ => k σ h, fun y => absurd (nI_le (Nat.le_refl _) (by omega)) y⟩
    | succ m ih =>
      intro P hP σ h
      refine wX6_findDays_2 d Q σ _ ?_
      rw [h.2.2.2.1.1]
      refine ⟨fun y => absurd y (nI_ge (by omega) (by omega)), fun _ => ?_⟩
      refine fd12_ok d Q hd hW hn hp ho hb P (by omega) (fun σ2 h2 => ih (P + 1) (by omega) σ2 ⟨h2.1, h2.2.1, h2.2.2.1, h2.2.2.2.1, fun P2 e2 q he => h2.2.2.2.2 P2 e2 (by omega) he⟩) nE 0 (by omega) σ h
  exact wX6_findDays d σ Q (key nP 0 (by omega) σ h)
end
/-- the planner when it plans -/
def KG (σ : HS) (nP nE : Nat) (y : Nat → Nat → Option Nat) (X lf op : Nat → Nat) (cw : Int32 × Int32) : Prop := (σ.1 10 0 7 = nI nP ∧ σ.1 10 0 0 = nI nE) ∧ (∀ P e, P < nP → e < nE → σ.1 96 0 (10 * P + e) = oI (y P e) ∧ σ.1 97 0 (10 * P + e) = nI (X (10 * P + e)) ∧ X (10 * P + e) ≤ 10000) ∧ (∀ P, P < nP → σ.1 93 0 P = nI (lf P) ∧ lf P ≤ 100000000) ∧ (∀ e, e < nE → σ.1 88 0 e = nI (op e) ∧ op e ≤ 10000) ∧ KC σ cw
def HY (nP nE : Nat) (y : Nat → Nat → Option Nat) : Prop := nP ≤ 80 ∧ nE ≤ 10 ∧ ∀ P e x, P < nP → e < nE → y P e = some x → x ≤ 200
theorem HY.c {nP nE P e : Nat} {y : Nat → Nat → Option Nat} (h : HY nP nE y) (hP : P < nP) (he : e < nE) : yc y P e ≤ 200 := by
  unfold yc
  match q : y P e with
  | none => exact Nat.zero_le _
  | some x => exact h.2.2 P e x hP he q
def KLs (σ : HS) (nP nE : Nat) (z : ZS) : Prop := (∀ P, P < nP → σ.1 94 0 P = nI (z.1 P) ∧ σ.1 95 0 P = oI (z.2.2.2 P)) ∧ ∀ e, e < nE → σ.1 89 0 e = nI (z.2.1 e) ∧ (z.2.1 e < 1000000 → σ.1 90 0 e = nI (z.2.2.1 e))
theorem KG.upk {σ : HS} {nP nE k i s : Nat} {y : Nat → Nat → Option Nat} {X lf op : Nat → Nat} {cw : Int32 × Int32} {x : Int32} (h : KG σ nP nE y X lf op cw) (h1 : (10 : Nat) ≠ k) (h2 : (96 : Nat) ≠ k) (h3 : (97 : Nat) ≠ k) (h4 : (93 : Nat) ≠ k) (h5 : (88 : Nat) ≠ k) : KG (up σ k i s x) nP nE y X lf op cw := by
  refine ⟨by rw [up_ne h1]; exact h.1, fun P e hP he => ?_, fun P hP => ?_, fun e he => ?_, h.2.2.2.2.upd h1⟩
  · rw [up_ne h2, up_ne h3]; exact h.2.1 P e hP he
  · rw [up_ne h4]; exact h.2.2.1 P hP
  · rw [up_ne h5]; exact h.2.2.2.1 e he
theorem KLs.uf {σ : HS} {nP nE f v j : Nat} {D E pl : Nat → Nat} {pf : Nat → Option Nat} (h : KLs σ nP nE (D, E, pl, pf)) : KLs (up (up σ 89 0 f (nI v)) 90 0 f (nI j)) nP nE (D, uF E f v, uF pl f j, pf) := by
  refine ⟨fun l hl => ?_, fun f2 hf => ?_⟩
  · rw [up_ne (show (94 : Nat) ≠ 90 by decide), up_ne (show (94 : Nat) ≠ 89 by decide), up_ne (show (95 : Nat) ≠ 90 by decide), up_ne (show (95 : Nat) ≠ 89 by decide)]
    exact h.1 l hl
  · rw [up_ne (show (89 : Nat) ≠ 90 by decide)]
    by_cases z : f2 = f
    · subst z
      rw [up_same, up_same]
      dsimp only
      rw [uF_s, uF_s]
      exact ⟨rfl, fun _ => rfl⟩
    · rw [up_f z, up_f z, up_ne (show (90 : Nat) ≠ 89 by decide)]
      dsimp only
      rw [uF_n z, uF_n z]
      exact h.2 f2 hf
theorem KLs.ul {σ : HS} {nP nE l v f : Nat} {D E pl : Nat → Nat} {pf : Nat → Option Nat} (h : KLs σ nP nE (D, E, pl, pf)) : KLs (up (up σ 94 0 l (nI v)) 95 0 l (nI f)) nP nE (uF D l v, E, pl, uF pf l (some f)) := by
  refine ⟨fun l2 hl => ?_, fun f2 hf => ?_⟩
  · rw [up_ne (show (94 : Nat) ≠ 95 by decide)]
    by_cases z : l2 = l
    · subst z
      rw [up_same, up_same]
      dsimp only
      rw [uF_s, uF_s]
      exact ⟨rfl, rfl⟩
    · rw [up_f z, up_f z, up_ne (show (95 : Nat) ≠ 94 by decide)]
      dsimp only
      rw [uF_n z, uF_n z]
      exact h.1 l2 hl
  · rw [up_ne (show (89 : Nat) ≠ 95 by decide), up_ne (show (89 : Nat) ≠ 94 by decide), up_ne (show (90 : Nat) ≠ 95 by decide), up_ne (show (90 : Nat) ≠ 94 by decide)]
    exact h.2 f2 hf
