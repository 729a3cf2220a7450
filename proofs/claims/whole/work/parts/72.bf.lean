/-! the nearest ways: labels, and whence -/
def KL (a b x y : Nat) : Prop := a < x ∨ (a = x ∧ b < y)
theorem KL.tr {a b x y u v : Nat} (h : KL a b x y) (k : KL x y u v) : KL a b u v := by
  unfold KL at h k ⊢
  omega
theorem KL.irr {a b : Nat} (h : KL a b a b) : False := by
  unfold KL at h
  omega
theorem KL.le {a b x y : Nat} (h : KL a b x y) : a ≤ x := by
  unfold KL at h
  omega
def BI (nS nF FAR g : Nat) (A : Nat → Nat → Prop) (c : Nat → Nat → Nat) (X lf p q D E pl : Nat → Nat) (pf : Nat → Option Nat) (tD tE : Nat → Nat) (B : Nat) : Prop :=
  (∀ l, l < nS → p l ≤ D l ∧ D l ≤ FAR ∧ tD l < B ∧ (0 < lf l → D l = 0 ∧ pf l = none) ∧ (pf l = none → lf l = 0 → D l = FAR) ∧ ∀ f, pf l = some f → f < nF ∧ 0 < X (10 * l + f) ∧ E f ≤ D l + c l f ∧ (g = 1 → E f < FAR) ∧ KL (E f - q f) (tE f) (D l - p l) (tD l)) ∧
  ∀ f, f < nF → q f ≤ E f ∧ E f ≤ FAR ∧ tE f < B ∧ (E f < FAR → pl f < nS ∧ A (pl f) f ∧ D (pl f) + c (pl f) f ≤ E f ∧ KL (D (pl f) - p (pl f)) (tD (pl f)) (E f - q f) (tE f))
section
variable {nS nF FAR g T : Nat} {A : Nat → Nat → Prop} {c : Nat → Nat → Nat} {X lf op p q D E pl : Nat → Nat} {pf : Nat → Option Nat} {tD tE : Nat → Nat} {B : Nat}
theorem BI.rf (h : BI nS nF FAR g A c X lf p q D E pl pf tD tE B) (pv : PV nS nF A c X lf op p q T) {l f : Nat} (hl : l < nS) (hf : f < nF) (ha : A l f) (hlt : D l + c l f < E f) : BI nS nF FAR g A c X lf p q D (uF E f (D l + c l f)) (uF pl f l) pf tD (uF tE f B) (B + 1) := by
  have qa := pv.1 l f hl hf ha
  obtain ⟨a1, a2, a3, -, -, -⟩ := h.1 l hl
  obtain ⟨e1, e2, e3, e4⟩ := h.2 f hf
  refine ⟨fun l' hl' => ?_, fun f' hf' => ?_⟩
  · obtain ⟨b1, b2, b3, b4, b5, b6⟩ := h.1 l' hl'
    refine ⟨b1, b2, by omega, b4, b5, fun f2 e => ?_⟩
    obtain ⟨c1, c2, c3, c4, c5⟩ := b6 f2 e
    by_cases z : f2 = f
    · subst z
      rw [uF_s, uF_s]
      refine ⟨c1, c2, by omega, fun gg => by have := c4 gg; omega, Or.inl ?_⟩
      have := c5.le
      omega
    · rw [uF_n z, uF_n z]
      exact ⟨c1, c2, c3, c4, c5⟩
  · by_cases z : f' = f
    · subst z
      rw [uF_s, uF_s, uF_s]
      refine ⟨by omega, by omega, by omega, fun _ => ⟨hl, ha, Nat.le_refl _, ?_⟩⟩
      unfold KL
      omega
    · rw [uF_n z, uF_n z, uF_n z]
      obtain ⟨c1, c2, c3, c4⟩ := h.2 f' hf'
      exact ⟨c1, c2, by omega, c4⟩
theorem BI.rl (h : BI nS nF FAR g A c X lf p q D E pl pf tD tE B) (pv : PV nS nF A c X lf op p q T) {l f : Nat} (hl : l < nS) (hf : f < nF) (hx : 0 < X (10 * l + f)) (hlt : E f < D l + c l f) (hg : g = 1 → E f < FAR) : BI nS nF FAR g A c X lf p q (uF D l (E f - c l f)) E pl (uF pf l (some f)) (uF tD l B) tE (B + 1) := by
  obtain ⟨ha, qa⟩ := pv.2.1 l f hl hf hx
  obtain ⟨a1, a2, a3, a4, a5, a6⟩ := h.1 l hl
  obtain ⟨e1, e2, e3, e4⟩ := h.2 f hf
  refine ⟨fun l' hl' => ?_, fun f' hf' => ?_⟩
  · by_cases z : l' = l
    · subst z
      rw [uF_s, uF_s, uF_s]
      refine ⟨by omega, by omega, by omega, fun y => ?_, fun y => absurd y (fun z => nomatch z), fun f2 y => ?_⟩
      · have b1 := (a4 y).1
        omega
      · obtain rfl := Option.some.inj y
        refine ⟨hf, hx, by omega, hg, ?_⟩
        unfold KL
        omega
    · rw [uF_n z, uF_n z, uF_n z]
      obtain ⟨b1, b2, b3, b4, b5, b6⟩ := h.1 l' hl'
      exact ⟨b1, b2, by omega, b4, b5, b6⟩
  · obtain ⟨c1, c2, c3, c4⟩ := h.2 f' hf'
    refine ⟨c1, c2, by omega, fun y => ?_⟩
    obtain ⟨d1, d2, d3, d4⟩ := c4 y
    by_cases z : pl f' = l
    · rw [z] at d2 d3 d4 ⊢
      rw [uF_s, uF_s]
      refine ⟨hl, d2, by omega, Or.inl ?_⟩
      have := d4.le
      omega
    · rw [uF_n z, uF_n z]
      exact ⟨d1, d2, d3, d4⟩
/-- nothing is nearer -/
def FX (nS nF FAR : Nat) (A : Nat → Nat → Prop) (c : Nat → Nat → Nat) (X D E : Nat → Nat) : Prop := (∀ l f, l < nS → f < nF → A l f → D l < FAR → E f ≤ D l + c l f) ∧ ∀ l f, l < nS → f < nF → 0 < X (10 * l + f) → E f < FAR → D l + c l f ≤ E f
theorem pth_f {b f : Nat} (h : BI nS nF FAR g A c X lf p q D E pl pf tD tE B) (pv : PV nS nF A c X lf op p q T) (fx : FX nS nF FAR A c X D E) (hb : b < nF) (ho : 0 < op b) (hE : E b < FAR) (hf : f < nF) (o : E f ≤ q f + (E b - T)) : E f < FAR ∧ pl f < nS ∧ A (pl f) f ∧ E f = D (pl f) + c (pl f) f ∧ D (pl f) ≤ p (pl f) + (E b - T) ∧ KL (D (pl f) - p (pl f)) (tD (pl f)) (E f - q f) (tE f) := by
  have q1 := (pv.2.2.2 b hb).2 ho
  have q2 := (h.2 b hb).1
  have q3 := (pv.2.2.2 f hf).1
  have lt : E f < FAR := by omega
  obtain ⟨c1, c2, c3, c4⟩ := h.2 f hf
  obtain ⟨d1, d2, d3, d4⟩ := c4 lt
  have k := d4.le
  have p1 := (h.1 (pl f) d1).1
  have x := fx.1 (pl f) f d1 hf d2 (by omega)
  exact ⟨lt, d1, d2, by omega, by omega, d4⟩
theorem pth_l {b l : Nat} (h : BI nS nF FAR g A c X lf p q D E pl pf tD tE B) (pv : PV nS nF A c X lf op p q T) (fx : FX nS nF FAR A c X D E) (hb : b < nF) (ho : 0 < op b) (hE : E b < FAR) (hl : l < nS) (o : D l ≤ p l + (E b - T)) : (pf l = none → 0 < lf l ∧ D l = 0) ∧ ∀ f, pf l = some f → f < nF ∧ 0 < X (10 * l + f) ∧ E f = D l + c l f ∧ E f ≤ q f + (E b - T) ∧ KL (E f - q f) (tE f) (D l - p l) (tD l) := by
  have q1 := (pv.2.2.2 b hb).2 ho
  have q2 := (h.2 b hb).1
  have p3 := (pv.2.2.1 l hl).1
  obtain ⟨a1, a2, a3, a4, a5, a6⟩ := h.1 l hl
  refine ⟨fun y => ?_, fun f y => ?_⟩
  · have : 0 < lf l := by
      refine Nat.pos_of_ne_zero (fun z => ?_)
      have := a5 y z
      omega
    exact ⟨this, (a4 this).1⟩
  · obtain ⟨c1, c2, c3, c4, c5⟩ := a6 f y
    have k := c5.le
    have q3 := (pv.2.2.2 f c1).1
    have q4 := (h.2 f c1).1
    have x := fx.2 l f hl c1 c2 (by omega)
    exact ⟨c1, c2, by omega, by omega, c5⟩
/-! the way back from a feast -/
def Lk (pl : Nat → Nat) (pf : Nat → Option Nat) (b : Nat) : Nat → Nat
  | 0 => pl b
  | i + 1 => pl ((pf (Lk pl pf b i)).getD 0)
def Fk (pl : Nat → Nat) (pf : Nat → Option Nat) (b : Nat) : Nat → Nat
  | 0 => b
  | i + 1 => (pf (Lk pl pf b i)).getD 0
theorem Lk_F (b : Nat) : ∀ i, Lk pl pf b i = pl (Fk pl pf b i)
  | 0 => rfl
  | _ + 1 => rfl
def klb (a b x y : Nat) : Bool := decide (a < x) || (decide (a = x) && decide (b < y))
theorem klb_iff {a b x y : Nat} : klb a b x y = true ↔ KL a b x y := by
  unfold klb KL
  simp
def cnK (nF : Nat) (E q tE : Nat → Nat) (f : Nat) : Nat := sm (fun f2 => if klb (E f2 - q f2) (tE f2) (E f - q f) (tE f) = true then 1 else 0) nF
theorem cnK_lt {f1 f2 : Nat} (h2 : f2 < nF) (k : KL (E f2 - q f2) (tE f2) (E f1 - q f1) (tE f1)) : cnK nF E q tE f2 < cnK nF E q tE f1 := by
  refine sm_lt (i := f2) h2 (fun f hf => ?_) ?_
  · by_cases z : klb (E f - q f) (tE f) (E f2 - q f2) (tE f2) = true
    · rw [if_pos z, if_pos (klb_iff.mpr ((klb_iff.mp z).tr k))]
      exact Nat.le_refl _
    · rw [if_neg z]
      exact Nat.zero_le _
  · rw [if_neg (fun z => (klb_iff.mp z).irr), if_pos (klb_iff.mpr k)]
    omega
theorem cnK_top {f : Nat} (hf : f < nF) : cnK nF E q tE f < nF := by
  have : cnK nF E q tE f < sm (fun _ => 1) nF := by
    refine sm_lt (i := f) hf (fun f2 _ => ?_) ?_
    · by_cases z : klb (E f2 - q f2) (tE f2) (E f - q f) (tE f) = true
      · rw [if_pos z]; exact Nat.le_refl _
      · rw [if_neg z]; exact Nat.zero_le _
    · rw [if_neg (fun z => (klb_iff.mp z).irr)]
      omega
  rw [sm_const] at this
  omega
/-- all that is on the way -/
theorem pth_i {b : Nat} (h : BI nS nF FAR g A c X lf p q D E pl pf tD tE B) (pv : PV nS nF A c X lf op p q T) (fx : FX nS nF FAR A c X D E) (hb : b < nF) (ho : 0 < op b) (hE : E b < FAR) : ∀ i, (∀ j, j < i → pf (Lk pl pf b j) ≠ none) → Fk pl pf b i < nF ∧ E (Fk pl pf b i) ≤ q (Fk pl pf b i) + (E b - T) ∧ cnK nF E q tE (Fk pl pf b i) + i ≤ cnK nF E q tE b := by
  intro i
  induction i with
  | zero =>
    intro _
    have q1 := (pv.2.2.2 b hb).2 ho
    have q2 := (h.2 b hb).1
    exact ⟨hb, by show E b ≤ q b + _; omega, Nat.le_refl _⟩
  | succ i ih =>
    intro al
    obtain ⟨i1, i2, i3⟩ := ih (fun j hj => al j (by omega))
    obtain ⟨f1, f2, f3, f4, f5, f6⟩ := pth_f h pv fx hb ho hE i1 i2
    rw [← Lk_F (pl := pl) (pf := pf) b i] at f2 f3 f4 f5 f6
    have g1 := (pth_l h pv fx hb ho hE f2 f5).2
    have al1 := al i (by omega)
    match hp : pf (Lk pl pf b i) with
    | none => exact absurd hp al1
    | some f =>
      obtain ⟨c1, c2, c3, c4, c5⟩ := g1 f hp
      have e : Fk pl pf b (i + 1) = f := by
        show (pf (Lk pl pf b i)).getD 0 = f
        rw [hp]
        rfl
      rw [e]
      have := cnK_lt (nF := nF) c1 (c5.tr f6)
      exact ⟨c1, c4, by omega⟩
theorem pth_L {b : Nat} (h : BI nS nF FAR g A c X lf p q D E pl pf tD tE B) (pv : PV nS nF A c X lf op p q T) (fx : FX nS nF FAR A c X D E) (hb : b < nF) (ho : 0 < op b) (hE : E b < FAR) (i : Nat) (al : ∀ j, j < i → pf (Lk pl pf b j) ≠ none) : Fk pl pf b i < nF ∧ Lk pl pf b i < nS ∧ A (Lk pl pf b i) (Fk pl pf b i) ∧ E (Fk pl pf b i) < FAR ∧ E (Fk pl pf b i) = D (Lk pl pf b i) + c (Lk pl pf b i) (Fk pl pf b i) ∧ D (Lk pl pf b i) ≤ p (Lk pl pf b i) + (E b - T) ∧ E (Fk pl pf b i) ≤ q (Fk pl pf b i) + (E b - T) ∧ KL (D (Lk pl pf b i) - p (Lk pl pf b i)) (tD (Lk pl pf b i)) (E (Fk pl pf b i) - q (Fk pl pf b i)) (tE (Fk pl pf b i)) := by
  obtain ⟨i1, i2, i3⟩ := pth_i h pv fx hb ho hE i al
  obtain ⟨f1, f2, f3, f4, f5, f6⟩ := pth_f h pv fx hb ho hE i1 i2
  rw [← Lk_F (pl := pl) (pf := pf) b i] at f2 f3 f4 f5 f6
  exact ⟨i1, f2, f3, f1, f4, f5, i2, f6⟩
theorem pth_n {b : Nat} (h : BI nS nF FAR g A c X lf p q D E pl pf tD tE B) (pv : PV nS nF A c X lf op p q T) (fx : FX nS nF FAR A c X D E) (hb : b < nF) (ho : 0 < op b) (hE : E b < FAR) (i : Nat) (al : ∀ j, j < i → pf (Lk pl pf b j) ≠ none) (hn : pf (Lk pl pf b i) ≠ none) : pf (Lk pl pf b i) = some (Fk pl pf b (i + 1)) ∧ 0 < X (10 * Lk pl pf b i + Fk pl pf b (i + 1)) ∧ Fk pl pf b (i + 1) < nF ∧ E (Fk pl pf b (i + 1)) = D (Lk pl pf b i) + c (Lk pl pf b i) (Fk pl pf b (i + 1)) ∧ KL (E (Fk pl pf b (i + 1)) - q (Fk pl pf b (i + 1))) (tE (Fk pl pf b (i + 1))) (D (Lk pl pf b i) - p (Lk pl pf b i)) (tD (Lk pl pf b i)) := by
  obtain ⟨i1, f2, f3, f1, f4, f5, i2, f6⟩ := pth_L h pv fx hb ho hE i al
  have g1 := (pth_l h pv fx hb ho hE f2 f5).2
  match hp : pf (Lk pl pf b i) with
  | none => exact absurd hp hn
  | some f =>
    obtain ⟨c1, c2, c3, c4, c5⟩ := g1 f hp
    have e : Fk pl pf b (i + 1) = f := by
      show (pf (Lk pl pf b i)).getD 0 = f
      rw [hp]
      rfl
    rw [e]
    exact ⟨rfl, c2, c1, c3, c5⟩
theorem pth_end {b : Nat} (h : BI nS nF FAR g A c X lf p q D E pl pf tD tE B) (pv : PV nS nF A c X lf op p q T) (fx : FX nS nF FAR A c X D E) (hb : b < nF) (ho : 0 < op b) (hE : E b < FAR) : ∃ k, k < nF ∧ (∀ j, j < k → pf (Lk pl pf b j) ≠ none) ∧ pf (Lk pl pf b k) = none ∧ 0 < lf (Lk pl pf b k) ∧ D (Lk pl pf b k) = 0 := by
  have key : ∀ m, (∀ j, j < m → pf (Lk pl pf b j) ≠ none) ∨ ∃ k, k < m ∧ (∀ j, j < k → pf (Lk pl pf b j) ≠ none) ∧ pf (Lk pl pf b k) = none := by
    intro m
    induction m with
    | zero => exact Or.inl (fun j hj => absurd hj (Nat.not_lt_zero j))
    | succ m ih =>
      rcases ih with a | ⟨k, k1, k2, k3⟩
      · by_cases z : pf (Lk pl pf b m) = none
        · exact Or.inr ⟨m, by omega, a, z⟩
        · refine Or.inl (fun j hj => ?_)
          by_cases y : j = m
          · rw [y]; exact z
          · exact a j (by omega)
      · exact Or.inr ⟨k, by omega, k2, k3⟩
  rcases key nF with a | ⟨k, k1, k2, k3⟩
  · have := (pth_i h pv fx hb ho hE nF a).2.2
    have t := cnK_top (nF := nF) (E := E) (q := q) (tE := tE) hb
    omega
  · obtain ⟨i1, f2, f3, f1, f4, f5, i2, f6⟩ := pth_L h pv fx hb ho hE k k2
    have := (pth_l h pv fx hb ho hE f2 f5).1 k3
    exact ⟨k, k1, k2, k3, this.1, this.2⟩
theorem pth_ne {b : Nat} (h : BI nS nF FAR g A c X lf p q D E pl pf tD tE B) (pv : PV nS nF A c X lf op p q T) (fx : FX nS nF FAR A c X D E) (hb : b < nF) (ho : 0 < op b) (hE : E b < FAR) (i : Nat) : ∀ m, (∀ j, j < i + 1 + m → pf (Lk pl pf b j) ≠ none) → KL (D (Lk pl pf b (i + 1 + m)) - p (Lk pl pf b (i + 1 + m))) (tD (Lk pl pf b (i + 1 + m))) (D (Lk pl pf b i) - p (Lk pl pf b i)) (tD (Lk pl pf b i)) := by
  intro m
  induction m with
  | zero =>
    intro al
    have a := (pth_n h pv fx hb ho hE i (fun j hj => al j (by omega)) (al i (by omega))).2.2.2.2
    have b' := (pth_L h pv fx hb ho hE (i + 1) al).2.2.2.2.2.2.2
    exact b'.tr a
  | succ m ih =>
    intro al
    have a := (pth_n h pv fx hb ho hE (i + 1 + m) (fun j hj => al j (by omega)) (al _ (by omega))).2.2.2.2
    have b' := (pth_L h pv fx hb ho hE (i + 1 + m + 1) al).2.2.2.2.2.2.2
    exact (b'.tr a).tr (ih (fun j hj => al j (by omega)))
theorem pth_dif {b i j : Nat} (h : BI nS nF FAR g A c X lf p q D E pl pf tD tE B) (pv : PV nS nF A c X lf op p q T) (fx : FX nS nF FAR A c X D E) (hb : b < nF) (ho : 0 < op b) (hE : E b < FAR) (hij : i < j) (al : ∀ m, m < j → pf (Lk pl pf b m) ≠ none) : Lk pl pf b j ≠ Lk pl pf b i := by
  intro z
  have := pth_ne h pv fx hb ho hE i (j - i - 1) (fun m hm => al m (by omega))
  rw [show i + 1 + (j - i - 1) = j by omega, z] at this
  exact this.irr
end
