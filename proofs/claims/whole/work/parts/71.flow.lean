/-! flows: sums and the bound -/
theorem sm_mul (a : Nat) (f : Nat → Nat) : ∀ n, sm (fun k => a * f k) n = a * sm f n
  | 0 => rfl
  | n + 1 => by rw [sm_succ, sm_succ, sm_mul a f n, Nat.mul_add]
theorem sm_comm (g : Nat → Nat → Nat) (m : Nat) : ∀ n, sm (fun l => sm (fun f => g l f) m) n = sm (fun f => sm (fun l => g l f) n) m
  | 0 => (sm_zero (fun _ _ => rfl)).symm
  | n + 1 => by
    rw [sm_succ, sm_comm g m n]
    exact (sm_add (fun f => sm (fun l => g l f) n) (fun f => g n f) m).symm
theorem sm_one {f g : Nat → Nat} {i : Nat} : ∀ {n : Nat}, i < n → (∀ k, k < n → k ≠ i → f k = g k) → sm f n + g i = sm g n + f i
  | 0, h, _ => absurd h (Nat.not_lt_zero i)
  | n + 1, h, e => by
    rw [sm_succ, sm_succ]
    by_cases z : i = n
    · subst z
      rw [sm_cong (f := f) (g := g) (fun k hk => e k (by omega) (by omega))]
      omega
    · have h1 := sm_one (f := f) (g := g) (i := i) (n := n) (by omega) (fun k hk => e k (by omega))
      have h2 := e n (by omega) (by omega)
      omega
theorem sm_lt {f g : Nat → Nat} {i : Nat} : ∀ {n : Nat}, i < n → (∀ k, k < n → f k ≤ g k) → f i < g i → sm f n < sm g n
  | 0, h, _, _ => absurd h (Nat.not_lt_zero i)
  | n + 1, h, e, s => by
    rw [sm_succ, sm_succ]
    by_cases z : i = n
    · subst z
      have := sm_le (n := i) (fun k hk => e k (by omega))
      omega
    · have h1 := sm_lt (n := n) (by omega) (fun k hk => e k (by omega)) s
      have h2 := e n (by omega)
      omega
/-- what is given, what is left, what is open: potentials that hold -/
def PV (nS nF : Nat) (A : Nat → Nat → Prop) (c : Nat → Nat → Nat) (X lf op p q : Nat → Nat) (T : Nat) : Prop :=
  (∀ l f, l < nS → f < nF → A l f → q f ≤ p l + c l f) ∧ (∀ l f, l < nS → f < nF → 0 < X (10 * l + f) → A l f ∧ q f = p l + c l f) ∧ (∀ l, l < nS → p l ≤ T ∧ (0 < lf l → p l = 0)) ∧ ∀ f, f < nF → q f ≤ T ∧ (0 < op f → q f = T)
def FC (nS nF : Nat) (s dm X lf op : Nat → Nat) : Prop := (∀ l, l < nS → lf l + sm (fun f => X (10 * l + f)) nF = s l) ∧ ∀ f, f < nF → op f + sm (fun l => X (10 * l + f)) nS = dm f
def ttl (nS nF : Nat) (X : Nat → Nat) : Nat := sm (fun l => sm (fun f => X (10 * l + f)) nF) nS
def cst (nS nF : Nat) (c : Nat → Nat → Nat) (X : Nat → Nat) : Nat := sm (fun l => sm (fun f => c l f * X (10 * l + f)) nF) nS
def PLN (nS nF : Nat) (A : Nat → Nat → Prop) (s dm Y : Nat → Nat) : Prop := (∀ l, l < nS → sm (fun f => Y (10 * l + f)) nF ≤ s l) ∧ (∀ f, f < nF → sm (fun l => Y (10 * l + f)) nS ≤ dm f) ∧ ∀ l f, l < nS → f < nF → 0 < Y (10 * l + f) → A l f
def BST (nS nF : Nat) (A : Nat → Nat → Prop) (c : Nat → Nat → Nat) (s dm : Nat → Nat) (F C : Nat) : Prop := (∃ Y, PLN nS nF A s dm Y ∧ ttl nS nF Y = F ∧ cst nS nF c Y = C) ∧ ∀ Y, PLN nS nF A s dm Y → ttl nS nF Y ≤ F ∧ (ttl nS nF Y = F → C ≤ cst nS nF c Y)
theorem dsum (nS nF : Nat) (c : Nat → Nat → Nat) (W p u : Nat → Nat) : sm (fun l => sm (fun f => c l f * W (10 * l + f) + (p l * W (10 * l + f) + u f * W (10 * l + f))) nF) nS = cst nS nF c W + (sm (fun l => p l * sm (fun f => W (10 * l + f)) nF) nS + sm (fun f => u f * sm (fun l => W (10 * l + f)) nS) nF) := by
  have e1 : ∀ l, sm (fun f => c l f * W (10 * l + f) + (p l * W (10 * l + f) + u f * W (10 * l + f))) nF = sm (fun f => c l f * W (10 * l + f)) nF + (p l * sm (fun f => W (10 * l + f)) nF + sm (fun f => u f * W (10 * l + f)) nF) := by
    intro l
    rw [sm_add (fun f => c l f * W (10 * l + f)) (fun f => p l * W (10 * l + f) + u f * W (10 * l + f)) nF, sm_add (fun f => p l * W (10 * l + f)) (fun f => u f * W (10 * l + f)) nF, sm_mul]
  rw [sm_cong (fun l _ => e1 l), sm_add (fun l => sm (fun f => c l f * W (10 * l + f)) nF) (fun l => p l * sm (fun f => W (10 * l + f)) nF + sm (fun f => u f * W (10 * l + f)) nF) nS, sm_add (fun l => p l * sm (fun f => W (10 * l + f)) nF) (fun l => sm (fun f => u f * W (10 * l + f)) nF) nS, sm_comm (fun l f => u f * W (10 * l + f)) nF nS]
  rw [sm_cong (f := fun f => sm (fun l => u f * W (10 * l + f)) nS) (g := fun f => u f * sm (fun l => W (10 * l + f)) nS) (fun f _ => sm_mul (u f) (fun l => W (10 * l + f)) nS)]
  rfl
theorem tsum (nS nF T : Nat) (W : Nat → Nat) : T * ttl nS nF W = sm (fun l => sm (fun f => T * W (10 * l + f)) nF) nS := by
  unfold ttl
  rw [← sm_mul]
  exact sm_cong (fun l _ => (sm_mul T (fun f => W (10 * l + f)) nF).symm)
theorem dual {nS nF T : Nat} {A : Nat → Nat → Prop} {c : Nat → Nat → Nat} {X lf op p q s dm Y : Nat → Nat} (h : PV nS nF A c X lf op p q T) (fc : FC nS nF s dm X lf op) (pl : PLN nS nF A s dm Y) : cst nS nF c X + T * ttl nS nF Y ≤ cst nS nF c Y + T * ttl nS nF X := by
  obtain ⟨h1, h2, h3, h4⟩ := h
  have hx : T * ttl nS nF X = cst nS nF c X + (sm (fun l => p l * s l) nS + sm (fun f => (T - q f) * dm f) nF) := by
    have e1 : sm (fun l => p l * s l) nS = sm (fun l => p l * sm (fun f => X (10 * l + f)) nF) nS := by
      refine sm_cong (fun l hl => ?_)
      rw [← fc.1 l hl, Nat.mul_add]
      by_cases z : 0 < lf l
      · rw [(h3 l hl).2 z]; omega
      · rw [show lf l = 0 by omega]; omega
    have e2 : sm (fun f => (T - q f) * dm f) nF = sm (fun f => (T - q f) * sm (fun l => X (10 * l + f)) nS) nF := by
      refine sm_cong (fun f hf => ?_)
      rw [← fc.2 f hf, Nat.mul_add]
      by_cases z : 0 < op f
      · rw [(h4 f hf).2 z, Nat.sub_self]; omega
      · rw [show op f = 0 by omega]; omega
    rw [e1, e2, ← dsum, tsum]
    refine sm_cong (fun l hl => sm_cong (fun f hf => ?_))
    rw [← Nat.add_mul, ← Nat.add_mul]
    by_cases z : 0 < X (10 * l + f)
    · have a := (h2 l f hl hf z).2
      have b := (h4 f hf).1
      rw [show c l f + (p l + (T - q f)) = T by omega]
    · rw [show X (10 * l + f) = 0 by omega]
      rfl
  have hy : T * ttl nS nF Y ≤ cst nS nF c Y + (sm (fun l => p l * s l) nS + sm (fun f => (T - q f) * dm f) nF) := by
    have e1 : sm (fun l => p l * sm (fun f => Y (10 * l + f)) nF) nS ≤ sm (fun l => p l * s l) nS := sm_le (fun l hl => Nat.mul_le_mul_left _ (pl.1 l hl))
    have e2 : sm (fun f => (T - q f) * sm (fun l => Y (10 * l + f)) nS) nF ≤ sm (fun f => (T - q f) * dm f) nF := sm_le (fun f hf => Nat.mul_le_mul_left _ (pl.2.1 f hf))
    have e3 := dsum nS nF c Y p (fun f => T - q f)
    have e4 : T * ttl nS nF Y ≤ sm (fun l => sm (fun f => c l f * Y (10 * l + f) + (p l * Y (10 * l + f) + (T - q f) * Y (10 * l + f))) nF) nS := by
      rw [tsum]
      refine sm_le (fun l hl => sm_le (fun f hf => ?_))
      rw [← Nat.add_mul, ← Nat.add_mul]
      by_cases z : 0 < Y (10 * l + f)
      · have a := h1 l f hl hf (pl.2.2 l f hl hf z)
        exact Nat.mul_le_mul_right _ (by omega)
      · rw [show Y (10 * l + f) = 0 by omega]
        exact Nat.le_refl _
    omega
  omega
theorem tot_col (nS nF : Nat) (Y : Nat → Nat) : ttl nS nF Y = sm (fun f => sm (fun l => Y (10 * l + f)) nS) nF := sm_comm (fun l f => Y (10 * l + f)) nF nS
theorem tot_fc {nS nF : Nat} {s dm X lf op : Nat → Nat} (fc : FC nS nF s dm X lf op) : sm op nF + ttl nS nF X = sm dm nF := by
  rw [tot_col, ← sm_add]
  exact sm_cong (fun f hf => fc.2 f hf)
theorem tot_pln {nS nF : Nat} {A : Nat → Nat → Prop} {s dm Y : Nat → Nat} (h : PLN nS nF A s dm Y) : ttl nS nF Y ≤ sm dm nF := by
  rw [tot_col]
  exact sm_le (fun f hf => h.2.1 f hf)
theorem cst_pln {nS nF M : Nat} {A : Nat → Nat → Prop} {c : Nat → Nat → Nat} {s dm Y : Nat → Nat} (h : PLN nS nF A s dm Y) (hc : ∀ l f, l < nS → f < nF → A l f → c l f ≤ M) : cst nS nF c Y ≤ M * ttl nS nF Y := by
  rw [tsum]
  refine sm_le (fun l hl => sm_le (fun f hf => ?_))
  by_cases z : 0 < Y (10 * l + f)
  · exact Nat.mul_le_mul_right _ (hc l f hl hf (h.2.2 l f hl hf z))
  · rw [show Y (10 * l + f) = 0 by omega]
    exact Nat.le_refl _
theorem pln_self {nS nF T : Nat} {A : Nat → Nat → Prop} {c : Nat → Nat → Nat} {X lf op p q s dm : Nat → Nat} (h : PV nS nF A c X lf op p q T) (fc : FC nS nF s dm X lf op) : PLN nS nF A s dm X :=
  ⟨fun l hl => by have := fc.1 l hl; omega, fun f hf => by have := fc.2 f hf; omega, fun l f hl hf z => (h.2.1 l f hl hf z).1⟩
theorem best_big {nS nF T M : Nat} {A : Nat → Nat → Prop} {c : Nat → Nat → Nat} {X lf op p q s dm : Nat → Nat} (h : PV nS nF A c X lf op p q T) (fc : FC nS nF s dm X lf op) (hc : ∀ l f, l < nS → f < nF → A l f → c l f ≤ M) (hT : M * sm dm nF < T) : BST nS nF A c s dm (ttl nS nF X) (cst nS nF c X) := by
  refine ⟨⟨X, pln_self h fc, rfl, rfl⟩, fun Y hY => ?_⟩
  have d := dual h fc hY
  have e1 := cst_pln hY hc
  have e2 : M * ttl nS nF Y ≤ M * sm dm nF := Nat.mul_le_mul_left _ (tot_pln hY)
  refine ⟨Nat.le_of_not_lt (fun z => ?_), fun z => ?_⟩
  · have := Nat.mul_le_mul_left T (show ttl nS nF X + 1 ≤ ttl nS nF Y by omega)
    rw [Nat.mul_add] at this
    omega
  · rw [z] at d
    omega
theorem best_full {nS nF T : Nat} {A : Nat → Nat → Prop} {c : Nat → Nat → Nat} {X lf op p q s dm : Nat → Nat} (h : PV nS nF A c X lf op p q T) (fc : FC nS nF s dm X lf op) (ho : sm op nF = 0) : BST nS nF A c s dm (ttl nS nF X) (cst nS nF c X) := by
  refine ⟨⟨X, pln_self h fc, rfl, rfl⟩, fun Y hY => ?_⟩
  have d := dual h fc hY
  have e1 := tot_fc fc
  have e2 := tot_pln hY
  refine ⟨by omega, fun z => ?_⟩
  rw [z] at d
  omega
theorem BST.uniq {nS nF F C F2 C2 : Nat} {A : Nat → Nat → Prop} {c : Nat → Nat → Nat} {s dm : Nat → Nat} (h : BST nS nF A c s dm F C) (h2 : BST nS nF A c s dm F2 C2) : F = F2 ∧ C = C2 := by
  obtain ⟨⟨Y, y1, y2, y3⟩, k⟩ := h
  obtain ⟨⟨Z, z1, z2, z3⟩, k2⟩ := h2
  have a := k Z z1
  have b := k2 Y y1
  have e : F = F2 := by omega
  have a2 := a.2 (by omega)
  have b2 := b.2 (by omega)
  exact ⟨e, by omega⟩
