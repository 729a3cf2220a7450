/-! more is given along the way -/
theorem ix_ne {l f l0 f0 : Nat} (hf : f < 10) (hf0 : f0 < 10) (h : ¬ (l = l0 ∧ f = f0)) : 10 * l + f ≠ 10 * l0 + f0 := by omega
theorem row_up {nF l0 f0 v : Nat} {X : Nat → Nat} (h10 : nF ≤ 10) (hf : f0 < nF) (l : Nat) : sm (fun f => uF X (10 * l0 + f0) v (10 * l + f)) nF + (if l = l0 then X (10 * l0 + f0) else 0) = sm (fun f => X (10 * l + f)) nF + (if l = l0 then v else 0) := by
  by_cases z : l = l0
  · subst z
    rw [if_pos rfl, if_pos rfl]
    have := sm_one (f := fun f => uF X (10 * l + f0) v (10 * l + f)) (g := fun f => X (10 * l + f)) hf (fun k hk hne => uF_n (by omega))
    rw [uF_s] at this
    exact this
  · rw [if_neg z, if_neg z, sm_cong (f := fun f => uF X (10 * l0 + f0) v (10 * l + f)) (g := fun f => X (10 * l + f)) (fun k hk => uF_n (by omega))]
theorem col_up {nS nF l0 f0 v : Nat} {X : Nat → Nat} (h10 : nF ≤ 10) (hl : l0 < nS) (hf : f0 < nF) {f : Nat} (hff : f < nF) : sm (fun l => uF X (10 * l0 + f0) v (10 * l + f)) nS + (if f = f0 then X (10 * l0 + f0) else 0) = sm (fun l => X (10 * l + f)) nS + (if f = f0 then v else 0) := by
  by_cases z : f = f0
  · subst z
    rw [if_pos rfl, if_pos rfl]
    have := sm_one (f := fun l => uF X (10 * l0 + f) v (10 * l + f)) (g := fun l => X (10 * l + f)) hl (fun k hk hne => uF_n (by omega))
    rw [uF_s] at this
    exact this
  · rw [if_neg z, if_neg z, sm_cong (f := fun l => uF X (10 * l0 + f0) v (10 * l + f)) (g := fun l => X (10 * l + f)) (fun k hk => uF_n (by omega))]
theorem cst_up {nS nF l0 f0 v : Nat} {c : Nat → Nat → Nat} {X : Nat → Nat} (h10 : nF ≤ 10) (hl : l0 < nS) (hf : f0 < nF) : cst nS nF c (uF X (10 * l0 + f0) v) + c l0 f0 * X (10 * l0 + f0) = cst nS nF c X + c l0 f0 * v := by
  unfold cst
  have a := sm_one (f := fun f => c l0 f * uF X (10 * l0 + f0) v (10 * l0 + f)) (g := fun f => c l0 f * X (10 * l0 + f)) hf (fun k hk hne => by rw [uF_n (by omega)])
  have b := sm_one (f := fun l => sm (fun f => c l f * uF X (10 * l0 + f0) v (10 * l + f)) nF) (g := fun l => sm (fun f => c l f * X (10 * l + f)) nF) hl (fun k hk hne => sm_cong (fun f hf2 => by rw [uF_n (by omega)]))
  rw [uF_s] at a
  omega
section
variable {nS nF FAR g T : Nat} {A : Nat → Nat → Prop} {c : Nat → Nat → Nat} {X lf op p q D E pl s dm : Nat → Nat} {pf : Nat → Option Nat} {tD tE : Nat → Nat} {B b n : Nat}
/-- n more stand at the lot Lk i, and want to be taken from there -/
def AU (nS nF : Nat) (c : Nat → Nat → Nat) (s dm X lf op q D E pl : Nat → Nat) (pf : Nat → Option Nat) (b n T i : Nat) (X2 : Nat → Nat) : Prop :=
  (∀ l, l < nS → lf l + sm (fun f => X2 (10 * l + f)) nF = s l + (if l = Lk pl pf b i then n else 0)) ∧ (∀ f, f < nF → uF op b (op b - n) f + sm (fun l => X2 (10 * l + f)) nS = dm f) ∧ cst nS nF c X2 + n * D (Lk pl pf b i) = cst nS nF c X + n * E b ∧
  (∀ j, i ≤ j → (∀ m, m < j + 1 → pf (Lk pl pf b m) ≠ none) → X (10 * Lk pl pf b j + Fk pl pf b (j + 1)) ≤ X2 (10 * Lk pl pf b j + Fk pl pf b (j + 1))) ∧ ∀ l f, l < nS → f < nF → 0 < X2 (10 * l + f) → 0 < X (10 * l + f) ∨ (l = pl f ∧ E f ≤ q f + (E b - T))
theorem AU.start (h : BI nS nF FAR g A c X lf p q D E pl pf tD tE B) (pv : PV nS nF A c X lf op p q T) (fx : FX nS nF FAR A c X D E) (fc : FC nS nF s dm X lf op) (h10 : nF ≤ 10) (hb : b < nF) (ho : 0 < op b) (hE : E b < FAR) (hn : n ≤ op b) : AU nS nF c s dm X lf op q D E pl pf b n T 0 (uF X (10 * Lk pl pf b 0 + b) (X (10 * Lk pl pf b 0 + b) + n)) := by
  obtain ⟨i1, f2, f3, f1, f4, f5, i2, f6⟩ := pth_L h pv fx hb ho hE 0 (fun j hj => absurd hj (Nat.not_lt_zero j))
  have f4 : E b = D (Lk pl pf b 0) + c (Lk pl pf b 0) b := f4
  have i2 : E b ≤ q b + (E b - T) := i2
  refine ⟨fun l hl => ?_, fun f hf => ?_, ?_, fun j hj al => ?_, fun l f hl hf hx => ?_⟩
  · have a := fc.1 l hl
    have r := row_up (X := X) (v := X (10 * Lk pl pf b 0 + b) + n) (l0 := Lk pl pf b 0) h10 hb l
    by_cases z : l = Lk pl pf b 0
    · rw [if_pos z, if_pos z] at r
      rw [if_pos z]
      omega
    · rw [if_neg z, if_neg z] at r
      rw [if_neg z]
      omega
  · have a := fc.2 f hf
    have r := col_up (X := X) (v := X (10 * Lk pl pf b 0 + b) + n) h10 f2 hb hf
    by_cases z : f = b
    · subst z
      rw [if_pos rfl, if_pos rfl] at r
      rw [uF_s]
      omega
    · rw [if_neg z, if_neg z] at r
      rw [uF_n z]
      omega
  · have r := cst_up (c := c) (X := X) (v := X (10 * Lk pl pf b 0 + b) + n) h10 f2 hb
    rw [Nat.mul_add] at r
    rw [f4, Nat.mul_add, Nat.mul_comm n (c (Lk pl pf b 0) b)]
    omega
  · by_cases z : 10 * Lk pl pf b j + Fk pl pf b (j + 1) = 10 * Lk pl pf b 0 + b
    · rw [z, uF_s]; omega
    · rw [uF_n z]; exact Nat.le_refl _
  · by_cases z : 10 * l + f = 10 * Lk pl pf b 0 + b
    · have e : l = Lk pl pf b 0 ∧ f = b := by omega
      obtain ⟨rfl, rfl⟩ := e
      exact Or.inr ⟨rfl, i2⟩
    · rw [uF_n z] at hx
      exact Or.inl hx
theorem AU.step {i : Nat} {X2 : Nat → Nat} (h : BI nS nF FAR g A c X lf p q D E pl pf tD tE B) (pv : PV nS nF A c X lf op p q T) (fx : FX nS nF FAR A c X D E) (h10 : nF ≤ 10) (hb : b < nF) (ho : 0 < op b) (hE : E b < FAR) (al : ∀ j, j < i + 1 → pf (Lk pl pf b j) ≠ none) (hn : n ≤ X (10 * Lk pl pf b i + Fk pl pf b (i + 1))) (au : AU nS nF c s dm X lf op q D E pl pf b n T i X2) :
    n ≤ X2 (10 * Lk pl pf b i + Fk pl pf b (i + 1)) ∧ AU nS nF c s dm X lf op q D E pl pf b n T (i + 1) (uF (uF X2 (10 * Lk pl pf b i + Fk pl pf b (i + 1)) (X2 (10 * Lk pl pf b i + Fk pl pf b (i + 1)) - n)) (10 * Lk pl pf b (i + 1) + Fk pl pf b (i + 1)) (X2 (10 * Lk pl pf b (i + 1) + Fk pl pf b (i + 1)) + n)) := by
  have df := pth_dif (i := i) (j := i + 1) h pv fx hb ho hE (by omega) al
  obtain ⟨i1, f2, f3, f1, f4, f5, i2, f6⟩ := pth_L h pv fx hb ho hE (i + 1) al
  obtain ⟨-, l2, -, -, -, -, -, -⟩ := pth_L h pv fx hb ho hE i (fun j hj => al j (by omega))
  obtain ⟨n1, n2, n3, n4, n5⟩ := pth_n h pv fx hb ho hE i (fun j hj => al j (by omega)) (al i (by omega))
  obtain ⟨u1, u2, u3, u4, u5⟩ := au
  have le := u4 i (Nat.le_refl _) (fun m hm => al m (by omega))
  refine ⟨by omega, ?_⟩
  unfold AU
  generalize hL : Lk pl pf b i = L0 at *
  generalize hM : Lk pl pf b (i + 1) = L1 at *
  generalize hF : Fk pl pf b (i + 1) = F1 at *
  have e1 : uF X2 (10 * L0 + F1) (X2 (10 * L0 + F1) - n) (10 * L1 + F1) = X2 (10 * L1 + F1) := uF_n (by omega)
  refine ⟨fun l hl => ?_, fun f hf => ?_, ?_, fun j hj al2 => ?_, fun l f hl hf hx => ?_⟩
  · have a := u1 l hl
    have r1 := row_up (X := X2) (v := X2 (10 * L0 + F1) - n) (l0 := L0) h10 i1 l
    have r2 := row_up (X := uF X2 (10 * L0 + F1) (X2 (10 * L0 + F1) - n)) (v := X2 (10 * L1 + F1) + n) (l0 := L1) h10 i1 l
    rw [e1] at r2
    by_cases z0 : l = L0
    · have z1 : ¬ l = L1 := fun y => df (by omega)
      rw [if_pos z0] at a
      rw [if_pos z0, if_pos z0] at r1
      rw [if_neg z1, if_neg z1] at r2
      rw [if_neg z1]
      omega
    · rw [if_neg z0] at a
      rw [if_neg z0, if_neg z0] at r1
      by_cases z1 : l = L1
      · rw [if_pos z1, if_pos z1] at r2
        rw [if_pos z1]
        omega
      · rw [if_neg z1, if_neg z1] at r2
        rw [if_neg z1]
        omega
  · have a := u2 f hf
    have r1 := col_up (X := X2) (v := X2 (10 * L0 + F1) - n) h10 l2 i1 hf
    have r2 := col_up (X := uF X2 (10 * L0 + F1) (X2 (10 * L0 + F1) - n)) (v := X2 (10 * L1 + F1) + n) h10 f2 i1 hf
    rw [e1] at r2
    by_cases z : f = F1
    · rw [if_pos z, if_pos z] at r1 r2
      omega
    · rw [if_neg z, if_neg z] at r1 r2
      omega
  · have r1 := cst_up (c := c) (X := X2) (v := X2 (10 * L0 + F1) - n) h10 l2 i1
    have r2 := cst_up (c := c) (X := uF X2 (10 * L0 + F1) (X2 (10 * L0 + F1) - n)) (v := X2 (10 * L1 + F1) + n) h10 f2 i1
    rw [e1, Nat.mul_add] at r2
    have m1 : c L0 F1 * X2 (10 * L0 + F1) = c L0 F1 * (X2 (10 * L0 + F1) - n) + c L0 F1 * n := by
      rw [← Nat.mul_add, Nat.sub_add_cancel (by omega)]
    have m2 : n * D L0 + n * c L0 F1 = n * D L1 + n * c L1 F1 := by
      rw [← Nat.mul_add, ← Nat.mul_add, ← n4, ← f4]
    rw [Nat.mul_comm n (c L0 F1), Nat.mul_comm n (c L1 F1)] at m2
    omega
  · have e := u4 j (by omega) al2
    have dj : Lk pl pf b j ≠ L0 := by
      rw [← hL]
      exact pth_dif h pv fx hb ho hE (by omega) (fun m hm => al2 m (by omega))
    have jf : Fk pl pf b (j + 1) < nF := (pth_n h pv fx hb ho hE j (fun m hm => al2 m (by omega)) (al2 j (by omega))).2.2.1
    by_cases z : 10 * Lk pl pf b j + Fk pl pf b (j + 1) = 10 * L1 + F1
    · rw [z, uF_s]
      rw [z] at e
      omega
    · rw [uF_n z, uF_n (by omega)]
      exact e
  · by_cases z : 10 * l + f = 10 * L1 + F1
    · have e : l = L1 ∧ f = F1 := by omega
      obtain ⟨rfl, rfl⟩ := e
      refine Or.inr ⟨?_, i2⟩
      rw [← hM, ← hF]
      exact Lk_F b (i + 1)
    · rw [uF_n z] at hx
      by_cases y : 10 * l + f = 10 * L0 + F1
      · rw [y, uF_s] at hx
        have := u5 l f hl hf (by rw [y]; omega)
        exact this
      · rw [uF_n y] at hx
        exact u5 l f hl hf hx
theorem AU.fin {k : Nat} {X2 : Nat → Nat} (au : AU nS nF c s dm X lf op q D E pl pf b n T k X2) (hD : D (Lk pl pf b k) = 0) (hl : n ≤ lf (Lk pl pf b k)) : FC nS nF s dm X2 (uF lf (Lk pl pf b k) (lf (Lk pl pf b k) - n)) (uF op b (op b - n)) ∧ cst nS nF c X2 = cst nS nF c X + n * E b := by
  obtain ⟨u1, u2, u3, u4, u5⟩ := au
  rw [hD, Nat.mul_zero] at u3
  refine ⟨⟨fun l hl2 => ?_, u2⟩, u3⟩
  have a := u1 l hl2
  by_cases z : l = Lk pl pf b k
  · rw [if_pos z] at a
    rw [z, uF_s]
    rw [z] at a
    omega
  · rw [if_neg z] at a
    rw [uF_n z]
    omega
/-- the potentials behind it -/
theorem PV.aug {X2 lf2 op2 : Nat → Nat} (h : BI nS nF FAR g A c X lf p q D E pl pf tD tE B) (pv : PV nS nF A c X lf op p q T) (fx : FX nS nF FAR A c X D E) (hb : b < nF) (ho : 0 < op b) (hE : E b < FAR) (hmin : ∀ f, f < nF → 0 < op f → E b ≤ E f) (hX : ∀ l f, l < nS → f < nF → 0 < X2 (10 * l + f) → 0 < X (10 * l + f) ∨ (l = pl f ∧ E f ≤ q f + (E b - T))) (hlf : ∀ l, l < nS → lf2 l ≤ lf l) (hop : ∀ f, f < nF → op2 f ≤ op f) :
    PV nS nF A c X2 lf2 op2 (fun l => min (D l) (p l + (E b - T))) (fun f => min (E f) (q f + (E b - T))) (E b) := by
  have q1 := (pv.2.2.2 b hb).2 ho
  have q2 := (h.2 b hb).1
  have aa : ∀ l f, l < nS → f < nF → A l f → min (E f) (q f + (E b - T)) ≤ min (D l) (p l + (E b - T)) + c l f := by
    intro l f hl hf ha
    have a1 := pv.1 l f hl hf ha
    have a2 := (pv.2.2.1 l hl).1
    by_cases z : D l < FAR
    · have := fx.1 l f hl hf ha z
      omega
    · omega
  refine ⟨aa, fun l f hl hf hx => ?_, fun l hl => ?_, fun f hf => ?_⟩
  · rcases hX l f hl hf hx with y | ⟨rfl, y⟩
    · obtain ⟨ha, e⟩ := pv.2.1 l f hl hf y
      refine ⟨ha, Nat.le_antisymm (aa l f hl hf ha) ?_⟩
      have a2 := (pv.2.2.2 f hf).1
      show min (D l) (p l + (E b - T)) + c l f ≤ min (E f) (q f + (E b - T))
      by_cases z : E f < FAR
      · have := fx.2 l f hl hf y z
        omega
      · omega
    · obtain ⟨f1, f2, f3, f4, f5, f6⟩ := pth_f h pv fx hb ho hE hf y
      refine ⟨f3, ?_⟩
      dsimp only
      omega
  · have a1 := pv.2.2.1 l hl
    have a2 := hlf l hl
    have a3 := h.1 l hl
    refine ⟨by dsimp only; omega, fun z => ?_⟩
    have := (a3.2.2.2.1 (by omega)).1
    dsimp only
    omega
  · have a1 := pv.2.2.2 f hf
    have a2 := hop f hf
    refine ⟨by dsimp only; omega, fun z => ?_⟩
    have b1 := a1.2 (by omega)
    have b2 := hmin f hf (by omega)
    dsimp only
    omega
end
