/-! where no more can be given -/
section
variable {nS nF FAR g T : Nat} {A : Nat → Nat → Prop} {c : Nat → Nat → Nat} {X lf op p q D E pl s dm : Nat → Nat} {pf : Nat → Option Nat} {tD tE : Nat → Nat} {B b n : Nat}
theorem BI.init (pv : PV nS nF A c X lf op p q T) (hT : T ≤ FAR) (hD : ∀ l, l < nS → D l = if 0 < lf l then 0 else FAR) (hE : ∀ f, f < nF → E f = FAR) (hp : ∀ l, l < nS → pf l = none) : BI nS nF FAR g A c X lf p q D E pl pf (fun _ => 0) (fun _ => 0) 1 := by
  refine ⟨fun l hl => ?_, fun f hf => ?_⟩
  · have a := pv.2.2.1 l hl
    rw [hD l hl, hp l hl]
    by_cases z : 0 < lf l
    · rw [if_pos z]
      exact ⟨by have := a.2 z; omega, Nat.zero_le _, Nat.zero_lt_one, fun _ => ⟨rfl, rfl⟩, fun _ y => by omega, fun f y => absurd y (fun z => nomatch z)⟩
    · rw [if_neg z]
      exact ⟨by omega, Nat.le_refl _, Nat.zero_lt_one, fun y => absurd y z, fun _ _ => rfl, fun f y => absurd y (fun z => nomatch z)⟩
  · have a := pv.2.2.2 f hf
    rw [hE f hf]
    exact ⟨by omega, Nat.le_refl _, Nat.zero_lt_one, fun y => by omega⟩
/-- everything is as near as can be: the labels are potentials themselves -/
theorem rend (h : BI nS nF FAR g A c X lf p q D E pl pf tD tE B) (pv : PV nS nF A c X lf op p q T) (f1 : ∀ l f, l < nS → f < nF → A l f → E f ≤ D l + c l f) (f2 : ∀ l f, l < nS → f < nF → 0 < X (10 * l + f) → D l + c l f ≤ E f) (ho : ∀ f, f < nF → 0 < op f → E f = FAR) : PV nS nF A c X lf op D E FAR := by
  refine ⟨f1, fun l f hl hf hx => ?_, fun l hl => ?_, fun f hf => ?_⟩
  · obtain ⟨a, -⟩ := pv.2.1 l f hl hf hx
    exact ⟨a, Nat.le_antisymm (f1 l f hl hf a) (f2 l f hl hf hx)⟩
  · obtain ⟨a1, a2, a3, a4, -⟩ := h.1 l hl
    exact ⟨a2, fun z => (a4 z).1⟩
  · obtain ⟨a1, a2, -⟩ := h.2 f hf
    exact ⟨a2, ho f hf⟩
theorem bndE {M : Nat} (h : BI nS nF FAR 1 A c X lf p q D E pl pf tD tE B) (fx : FX nS nF FAR A c X D E) (hc : ∀ l f, l < nS → f < nF → A l f → c l f ≤ M) : ∀ m f, f < nF → cnK nF E q tE f < m → E f < FAR → E f ≤ M * m := by
  intro m
  induction m with
  | zero => intro f _ hm; omega
  | succ m ih =>
    intro f hf hm hE
    obtain ⟨e1, e2, e3, e4⟩ := h.2 f hf
    obtain ⟨d1, d2, d3, d4⟩ := e4 hE
    obtain ⟨a1, a2, a3, a4, a5, a6⟩ := h.1 (pl f) d1
    have x := fx.1 (pl f) f d1 hf d2 (by omega)
    have cc := hc (pl f) f d1 hf d2
    rw [Nat.mul_succ]
    match hp : pf (pl f) with
    | none =>
      have : 0 < lf (pl f) := by
        refine Nat.pos_of_ne_zero (fun z => ?_)
        have := a5 hp z
        omega
      have := (a4 this).1
      omega
    | some f2 =>
      obtain ⟨c1, c2, c3, c4, c5⟩ := a6 f2 hp
      have k := cnK_lt (nF := nF) c1 (c5.tr d4)
      have i := ih f2 c1 (by omega) (c4 rfl)
      have y := fx.2 (pl f) f2 d1 c1 c2 (c4 rfl)
      omega
theorem cend {M Δ : Nat} (h : BI nS nF FAR 1 A c X lf p q D E pl pf tD tE B) (pv : PV nS nF A c X lf op p q T) (fx : FX nS nF FAR A c X D E) (hc : ∀ l f, l < nS → f < nF → A l f → c l f ≤ M) (hM : M * nF + M < FAR) (hD : FAR ≤ Δ) (ho : ∀ f, f < nF → 0 < op f → FAR ≤ E f) :
    PV nS nF A c X lf op (fun l => if D l < FAR then D l else p l + Δ) (fun f => if E f < FAR then E f else q f + Δ) (T + Δ) := by
  have bE : ∀ f, f < nF → E f < FAR → E f ≤ M * nF := fun f hf he => bndE h fx hc nF f hf (cnK_top hf) he
  have bD : ∀ l, l < nS → D l < FAR → D l ≤ M * nF := by
    intro l hl hd
    obtain ⟨a1, a2, a3, a4, a5, a6⟩ := h.1 l hl
    match hp : pf l with
    | none =>
      have : 0 < lf l := by
        refine Nat.pos_of_ne_zero (fun z => ?_)
        have := a5 hp z
        omega
      have := (a4 this).1
      omega
    | some f2 =>
      obtain ⟨c1, c2, c3, c4, c5⟩ := a6 f2 hp
      have y := fx.2 l f2 hl c1 c2 (c4 rfl)
      have z := bE f2 c1 (c4 rfl)
      omega
  have cl : ∀ l f, l < nS → f < nF → A l f → D l < FAR → E f < FAR := by
    intro l f hl hf ha hd
    have a := fx.1 l f hl hf ha hd
    have b := bD l hl hd
    have d := hc l f hl hf ha
    omega
  refine ⟨fun l f hl hf ha => ?_, fun l f hl hf hx => ?_, fun l hl => ?_, fun f hf => ?_⟩
  · have a := pv.1 l f hl hf ha
    dsimp only
    by_cases z : D l < FAR
    · rw [if_pos z, if_pos (cl l f hl hf ha z)]
      exact fx.1 l f hl hf ha z
    · rw [if_neg z]
      by_cases y : E f < FAR
      · rw [if_pos y]; omega
      · rw [if_neg y]; omega
  · obtain ⟨ha, e⟩ := pv.2.1 l f hl hf hx
    refine ⟨ha, ?_⟩
    dsimp only
    by_cases y : E f < FAR
    · have u := fx.2 l f hl hf hx y
      have v : D l < FAR := by omega
      have w := fx.1 l f hl hf ha v
      rw [if_pos y, if_pos v]
      omega
    · have v : ¬ D l < FAR := fun z => y (cl l f hl hf ha z)
      rw [if_neg y, if_neg v]
      omega
  · have a := pv.2.2.1 l hl
    obtain ⟨a1, a2, a3, a4, a5, a6⟩ := h.1 l hl
    dsimp only
    refine ⟨?_, fun z => ?_⟩
    · by_cases y : D l < FAR
      · rw [if_pos y]; omega
      · rw [if_neg y]; omega
    · have := (a4 z).1
      by_cases y : D l < FAR
      · rw [if_pos y]; exact this
      · have := h.1 l hl
        omega
  · have a := pv.2.2.2 f hf
    dsimp only
    refine ⟨?_, fun z => ?_⟩
    · by_cases y : E f < FAR
      · rw [if_pos y]; omega
      · rw [if_neg y]; omega
    · have := ho f hf z
      have := a.2 z
      rw [if_neg (by omega)]
      omega
/-! the class's rounds -/
def RI (nS nF FAR : Nat) (A : Nat → Nat → Prop) (c : Nat → Nat → Nat) (X p q D E : Nat → Nat) (k : Nat) : Prop := ∃ M, (∀ l f, l < nS → f < nF → A l f → D l < FAR → D l + c l f < E f → M ≤ D l - p l) ∧ (∀ l f, l < nS → f < nF → 0 < X (10 * l + f) → E f < FAR → D l + c l f ≤ E f) ∧ k ≤ sm (fun f => if E f < FAR ∧ E f - q f ≤ M then 1 else 0) nF
def FO (nS nF FAR : Nat) (A : Nat → Nat → Prop) (c : Nat → Nat → Nat) (D E E2 : Nat → Nat) : Prop := (∀ f, f < nF → E2 f = E f ∨ (E2 f < E f ∧ ∃ l, l < nS ∧ A l f ∧ D l < FAR ∧ E2 f = D l + c l f)) ∧ ∀ l f, l < nS → f < nF → A l f → D l < FAR → E2 f ≤ D l + c l f
def BK (nS nF FAR : Nat) (c : Nat → Nat → Nat) (X E D D2 : Nat → Nat) : Prop := (∀ l, l < nS → D2 l = D l ∨ (D2 l < D l ∧ ∃ f, f < nF ∧ 0 < X (10 * l + f) ∧ E f < FAR ∧ E f = D2 l + c l f)) ∧ ∀ l f, l < nS → f < nF → 0 < X (10 * l + f) → E f < FAR → D2 l + c l f ≤ E f
theorem RI.zero (hE : ∀ f, f < nF → E f = FAR) : RI nS nF FAR A c X p q D E 0 := ⟨0, fun l f _ _ _ _ _ => Nat.zero_le _, fun l f _ hf _ y => by have := hE f hf; omega, Nat.zero_le _⟩
theorem RI.le {k : Nat} (h : RI nS nF FAR A c X p q D E k) : k ≤ nF := by
  obtain ⟨M, -, -, m3⟩ := h
  have : sm (fun f => if E f < FAR ∧ E f - q f ≤ M then 1 else 0) nF ≤ sm (fun _ => 1) nF := sm_le (fun f _ => by
    by_cases z : E f < FAR ∧ E f - q f ≤ M
    · rw [if_pos z]; exact Nat.le_refl _
    · rw [if_neg z]; exact Nat.zero_le _)
  rw [sm_const] at this
  omega
theorem RI.fx0 {k : Nat} {E2 : Nat → Nat} (h : RI nS nF FAR A c X p q D E k) (fo : FO nS nF FAR A c D E E2) (same : ∀ f, f < nF → E2 f = E f) : FX nS nF FAR A c X D E2 := by
  obtain ⟨M, -, m2, -⟩ := h
  refine ⟨fo.2, fun l f hl hf hx y => ?_⟩
  rw [same f hf] at y ⊢
  exact m2 l f hl hf hx y
theorem RI.fx1 {D2 E2 : Nat → Nat} (fo : FO nS nF FAR A c D E E2) (bk : BK nS nF FAR c X E2 D D2) (same : ∀ l, l < nS → D2 l = D l) : FX nS nF FAR A c X D2 E2 := by
  refine ⟨fun l f hl hf ha y => ?_, bk.2⟩
  rw [same l hl] at y ⊢
  exact fo.2 l f hl hf ha y
theorem RI.next {k : Nat} {D2 E2 : Nat → Nat} (pv : PV nS nF A c X lf op p q T) (hp : ∀ l, l < nS → p l ≤ D l) (hq : ∀ f, f < nF → q f ≤ E2 f) (hE : ∀ f, f < nF → E f ≤ FAR) (h : RI nS nF FAR A c X p q D E k) (fo : FO nS nF FAR A c D E E2) (some : ∃ f, f < nF ∧ E2 f < E f) (bk : BK nS nF FAR c X E2 D D2) : RI nS nF FAR A c X p q D2 E2 (k + 1) := by
  obtain ⟨M, m1, m2, m3⟩ := h
  have ch : ∀ f, f < nF → E2 f < E f → M ≤ E2 f - q f := by
    intro f hf lt
    rcases fo.1 f hf with e | ⟨-, l, hl, ha, hd, e⟩
    · omega
    · have a := m1 l f hl hf ha hd (by omega)
      have b := pv.1 l f hl hf ha
      have d := hp l hl
      omega
  obtain ⟨f0, hf0, lt0⟩ := some
  obtain ⟨M2, ⟨f1, hf1, lt1, e1⟩, mn⟩ := pk_least (fun r => ∃ f, f < nF ∧ E2 f < E f ∧ E2 f - q f = r) ⟨E2 f0 - q f0, f0, hf0, lt0, rfl⟩
  have M12 : M ≤ M2 := by
    have := ch f1 hf1 lt1
    omega
  refine ⟨M2, fun l f hl hf ha hd lt => ?_, bk.2, ?_⟩
  · rcases bk.1 l hl with e | ⟨lt2, f2, hf2, hx, he, e⟩
    · have := fo.2 l f hl hf ha (by omega)
      omega
    · have qe := (pv.2.1 l f2 hl hf2 hx).2
      have c2 : E2 f2 < E f2 := by
        rcases fo.1 f2 hf2 with y | ⟨y, -⟩
        · have := m2 l f2 hl hf2 hx (by omega)
          omega
        · exact y
      have : M2 ≤ E2 f2 - q f2 := Nat.le_of_not_lt (fun z => mn _ z ⟨f2, hf2, c2, rfl⟩)
      omega
  · refine Nat.lt_of_le_of_lt m3 (sm_lt (i := f1) hf1 (fun f hf => ?_) ?_)
    · by_cases z : E f < FAR ∧ E f - q f ≤ M
      · have : E2 f = E f := by
          rcases fo.1 f hf with y | ⟨y, -⟩
          · exact y
          · have a := ch f hf y
            have b := hq f hf
            omega
        rw [if_pos z, if_pos (by omega)]
        exact Nat.le_refl _
      · rw [if_neg z]
        exact Nat.zero_le _
    · have a := hE f1 hf1
      have b := hq f1 hf1
      rw [if_neg (fun z => by omega), if_pos (by omega)]
      omega
end
