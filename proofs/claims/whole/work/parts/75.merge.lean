/-! plans, and lots that are one -/
def PLg (nS nF : Nat) (A : Nat → Nat → Prop) (s dm : Nat → Nat) (y : Nat → Nat → Nat) : Prop := (∀ l, l < nS → sm (fun f => y l f) nF ≤ s l) ∧ (∀ f, f < nF → sm (fun l => y l f) nS ≤ dm f) ∧ ∀ l f, l < nS → f < nF → 0 < y l f → A l f
def tt (nS nF : Nat) (y : Nat → Nat → Nat) : Nat := sm (fun l => sm (fun f => y l f) nF) nS
def ctt (nS nF : Nat) (c y : Nat → Nat → Nat) : Nat := sm (fun l => sm (fun f => c l f * y l f) nF) nS
theorem PLg.tr {nS nF : Nat} {A : Nat → Nat → Prop} {s dm : Nat → Nat} {y : Nat → Nat → Nat} (h : PLg nS nF A s dm y) : PLg nF nS (fun f l => A l f) dm s (fun f l => y l f) := ⟨h.2.1, h.1, fun f l hf hl => h.2.2 l f hl hf⟩
theorem tt_tr (nS nF : Nat) (y : Nat → Nat → Nat) : tt nF nS (fun f l => y l f) = tt nS nF y := (sm_comm y nF nS).symm
theorem ctt_tr (nS nF : Nat) (c y : Nat → Nat → Nat) : ctt nF nS (fun f l => c l f) (fun f l => y l f) = ctt nS nF c y := (sm_comm (fun l f => c l f * y l f) nF nS).symm
theorem sm_pos {f : Nat → Nat} : ∀ {n : Nat}, 0 < sm f n → ∃ k, k < n ∧ 0 < f k
  | 0, h => absurd h (Nat.lt_irrefl 0)
  | n + 1, h => by
    rw [sm_succ] at h
    by_cases z : 0 < f n
    · exact ⟨n, by omega, z⟩
    · obtain ⟨k, h1, h2⟩ := sm_pos (f := f) (n := n) (by omega)
      exact ⟨k, by omega, h2⟩
theorem sm_ite (x v : Nat) : ∀ n, sm (fun P => if x = P then v else 0) n = if x < n then v else 0
  | 0 => by rw [if_neg (by omega)]; rfl
  | n + 1 => by
    rw [sm_succ, sm_ite x v n]
    by_cases z : x = n
    · rw [if_neg (by omega), if_pos z, if_pos (by omega)]; omega
    · rw [if_neg z]
      by_cases y : x < n
      · rw [if_pos y, if_pos (by omega)]; omega
      · rw [if_neg y, if_neg (by omega)]
theorem sm_by (g h : Nat → Nat) (nS nP : Nat) : sm (fun P => sm (fun l => if g l = P then h l else 0) nS) nP = sm (fun l => if g l < nP then h l else 0) nS := by
  rw [sm_comm (fun P l => if g l = P then h l else 0) nS nP]
  exact sm_cong (fun l _ => sm_ite (g l) (h l) nP)
theorem sm_if (P : Prop) [Decidable P] (f : Nat → Nat) (n : Nat) : sm (fun k => if P then f k else 0) n = if P then sm f n else 0 := by
  by_cases z : P
  · rw [if_pos z]
    exact sm_cong (fun k _ => if_pos z)
  · rw [if_neg z]
    exact sm_zero (fun k _ => if_neg z)
theorem mrg_dn {nS nP nF : Nat} {A A2 : Nat → Nat → Prop} {c c2 : Nat → Nat → Nat} {s s2 dm g : Nat → Nat} {y : Nat → Nat → Nat}
    (h1 : ∀ l, l < nS → g l < nP → ∀ f, f < nF → (A2 (g l) f ↔ A l f) ∧ (A l f → c2 (g l) f = c l f)) (h2 : ∀ l f, l < nS → f < nF → A l f → 0 < s l → 0 < dm f → g l < nP) (h3 : ∀ P, P < nP → s2 P = sm (fun l => if g l = P then s l else 0) nS) (h : PLg nS nF A s dm y) :
    ∃ y2, PLg nP nF A2 s2 dm y2 ∧ tt nP nF y2 = tt nS nF y ∧ ctt nP nF c2 y2 = ctt nS nF c y := by
  obtain ⟨p1, p2, p3⟩ := h
  have row0 : ∀ l, l < nS → ¬ g l < nP → ∀ f, f < nF → y l f = 0 := by
    intro l hl hg f hf
    refine Nat.eq_zero_of_not_pos (fun z => hg (h2 l f hl hf (p3 l f hl hf z) ?_ ?_))
    · have a := p1 l hl
      have b := sm_part (fun f => y l f) hf
      omega
    · have a := p2 f hf
      have b := sm_part (fun l => y l f) hl
      omega
  have sw : ∀ P (w : Nat → Nat → Nat), sm (fun f => sm (fun l => if g l = P then w l f else 0) nS) nF = sm (fun l => if g l = P then sm (fun f => w l f) nF else 0) nS := by
    intro P w
    rw [← sm_comm (fun l f => if g l = P then w l f else 0) nF nS]
    exact sm_cong (fun l _ => sm_if (g l = P) (fun f => w l f) nF)
  refine ⟨fun P f => sm (fun l => if g l = P then y l f else 0) nS, ⟨fun P hP => ?_, fun f hf => ?_, fun P f hP hf hy => ?_⟩, ?_, ?_⟩
  · rw [sw P y, h3 P hP]
    refine sm_le (fun l hl => ?_)
    by_cases z : g l = P
    · rw [if_pos z, if_pos z]; exact p1 l hl
    · rw [if_neg z]; exact Nat.zero_le _
  · rw [sm_by g (fun l => y l f) nS nP]
    refine Nat.le_trans (sm_le (fun l hl => ?_)) (p2 f hf)
    by_cases z : g l < nP
    · rw [if_pos z]; exact Nat.le_refl _
    · rw [if_neg z]; exact Nat.zero_le _
  · obtain ⟨l, hl, hz⟩ := sm_pos hy
    by_cases z : g l = P
    · subst z
      rw [if_pos rfl] at hz
      exact ((h1 l hl hP f hf).1).mpr (p3 l f hl hf hz)
    · rw [if_neg z] at hz
      exact absurd hz (Nat.lt_irrefl 0)
  · unfold tt
    rw [sm_cong (fun P _ => sw P y), sm_by g (fun l => sm (fun f => y l f) nF) nS nP]
    refine sm_cong (fun l hl => ?_)
    by_cases z : g l < nP
    · rw [if_pos z]
    · rw [if_neg z]
      exact (sm_zero (fun f hf => row0 l hl z f hf)).symm
  · unfold ctt
    have e : ∀ P, P < nP → sm (fun f => c2 P f * sm (fun l => if g l = P then y l f else 0) nS) nF = sm (fun l => if g l = P then sm (fun f => c l f * y l f) nF else 0) nS := by
      intro P hP
      rw [← sw P (fun l f => c l f * y l f)]
      refine sm_cong (fun f hf => ?_)
      rw [← sm_mul]
      refine sm_cong (fun l hl => ?_)
      by_cases z : g l = P
      · rw [if_pos z, if_pos z]
        by_cases yz : 0 < y l f
        · rw [← (h1 l hl (by omega) f hf).2 (p3 l f hl hf yz), z]
        · rw [show y l f = 0 by omega, Nat.mul_zero, Nat.mul_zero]
      · rw [if_neg z, if_neg z, Nat.mul_zero]
    rw [sm_cong e, sm_by g (fun l => sm (fun f => c l f * y l f) nF) nS nP]
    refine sm_cong (fun l hl => ?_)
    by_cases z : g l < nP
    · rw [if_pos z]
    · rw [if_neg z]
      exact (sm_zero (fun f hf => by rw [row0 l hl z f hf, Nat.mul_zero])).symm
theorem subrow (r : Nat → Nat) : ∀ n m, m ≤ sm r n → ∃ u : Nat → Nat, (∀ f, u f ≤ r f) ∧ sm u n = m
  | 0, m, h => ⟨fun _ => 0, fun _ => Nat.zero_le _, by have : m ≤ 0 := h; show 0 = m; omega⟩
  | n + 1, m, h => by
    rw [sm_succ] at h
    by_cases z : m ≤ sm r n
    · obtain ⟨u, u1, u2⟩ := subrow r n m z
      refine ⟨fun f => if f = n then 0 else u f, fun f => ?_, ?_⟩
      · dsimp only
        by_cases y : f = n
        · rw [if_pos y]; exact Nat.zero_le _
        · rw [if_neg y]; exact u1 f
      · rw [sm_succ, if_pos rfl, sm_cong (g := u) (fun k hk => if_neg (by omega))]
        omega
    · refine ⟨fun f => if f = n then m - sm r n else r f, fun f => ?_, ?_⟩
      · dsimp only
        by_cases y : f = n
        · rw [if_pos y, y]; omega
        · rw [if_neg y]; exact Nat.le_refl _
      · rw [sm_succ, if_pos rfl, sm_cong (g := r) (fun k hk => if_neg (by omega))]
        omega
theorem spl {nP nF : Nat} (g s : Nat → Nat) : ∀ (n : Nat) (R : Nat → Nat → Nat), (∀ P, P < nP → sm (fun f => R P f) nF ≤ sm (fun l => if g l = P then s l else 0) n) → ∃ y : Nat → Nat → Nat, (∀ l, l < n → sm (fun f => y l f) nF ≤ s l) ∧ (∀ P f, P < nP → f < nF → sm (fun l => if g l = P then y l f else 0) n = R P f) ∧ (∀ l, l < n → ¬ g l < nP → ∀ f, y l f = 0) ∧ ∀ l f, l < n → f < nF → 0 < y l f → 0 < R (g l) f
  | 0, R, h => ⟨fun _ _ => 0, fun l hl => absurd hl (Nat.not_lt_zero l), fun P f hP hf => by
      have a : sm (fun f => R P f) nF ≤ 0 := h P hP
      have b := sm_part (fun f => R P f) hf
      show 0 = R P f
      omega, fun l hl => absurd hl (Nat.not_lt_zero l), fun l f hl => absurd hl (Nat.not_lt_zero l)⟩
  | n + 1, R, h => by
    by_cases z : g n < nP
    · have hn := h (g n) z
      rw [sm_succ, if_pos rfl] at hn
      obtain ⟨u, u1, u2⟩ := subrow (fun f => R (g n) f) nF (sm (fun f => R (g n) f) nF - sm (fun l => if g l = g n then s l else 0) n) (by omega)
      have eq : sm (fun f => R (g n) f - u f) nF + sm u nF = sm (fun f => R (g n) f) nF := by
        rw [← sm_add]
        exact sm_cong (fun f _ => by have := u1 f; omega)
      obtain ⟨y, y1, y2, y3, y4⟩ := spl (nP := nP) (nF := nF) g s n (fun P f => if P = g n then R P f - u f else R P f) (fun P hP => by
        by_cases e : P = g n
        · subst e
          rw [sm_cong (g := fun f => R (g n) f - u f) (fun f _ => if_pos rfl)]
          omega
        · rw [sm_cong (g := fun f => R P f) (fun f _ => if_neg e)]
          have := h P hP
          rw [sm_succ, if_neg (fun q => e q.symm)] at this
          omega)
      refine ⟨fun l f => if l = n then u f else y l f, fun l hl => ?_, fun P f hP hf => ?_, fun l hl hg f => ?_, fun l f hl hf hy => ?_⟩
      · by_cases e : l = n
        · subst e
          rw [sm_cong (g := u) (fun f _ => if_pos rfl)]
          omega
        · rw [sm_cong (g := fun f => y l f) (fun f _ => if_neg e)]
          exact y1 l (by omega)
      · have a := y2 P f hP hf
        rw [sm_succ]
        dsimp only
        rw [if_pos rfl, sm_cong (g := fun l => if g l = P then y l f else 0) (fun l hl => by rw [if_neg (show l ≠ n by omega)]), a]
        have b := u1 f
        by_cases e : g n = P
        · subst e
          rw [if_pos rfl, if_pos rfl]
          omega
        · rw [if_neg e, if_neg (fun q => e q.symm)]
          rfl
      · by_cases e : l = n
        · subst e
          exact absurd z hg
        · dsimp only
          rw [if_neg e]
          exact y3 l (by omega) hg f
      · dsimp only at hy
        by_cases e : l = n
        · subst e
          rw [if_pos rfl] at hy
          have := u1 f
          omega
        · rw [if_neg e] at hy
          have := y4 l f (by omega) hf hy
          by_cases q : g l = g n
          · rw [if_pos q] at this
            omega
          · rw [if_neg q] at this
            exact this
    · obtain ⟨y, y1, y2, y3, y4⟩ := spl (nP := nP) (nF := nF) g s n R (fun P hP => by
        have := h P hP
        rw [sm_succ, if_neg (fun q => by omega)] at this
        exact this)
      refine ⟨fun l f => if l = n then 0 else y l f, fun l hl => ?_, fun P f hP hf => ?_, fun l hl hg f => ?_, fun l f hl hf hy => ?_⟩
      · by_cases e : l = n
        · rw [sm_zero (fun f _ => if_pos e)]
          exact Nat.zero_le _
        · rw [sm_cong (g := fun f => y l f) (fun f _ => if_neg e)]
          exact y1 l (by omega)
      · have a := y2 P f hP hf
        rw [sm_succ]
        dsimp only
        rw [if_neg (show g n ≠ P by omega), sm_cong (g := fun l => if g l = P then y l f else 0) (fun l hl => by rw [if_neg (show l ≠ n by omega)]), a]
        rfl
      · dsimp only
        by_cases e : l = n
        · rw [if_pos e]
        · rw [if_neg e]
          exact y3 l (by omega) hg f
      · dsimp only at hy
        by_cases e : l = n
        · rw [if_pos e] at hy
          exact absurd hy (Nat.lt_irrefl 0)
        · rw [if_neg e] at hy
          exact y4 l f (by omega) hf hy
theorem mrg_up {nS nP nF : Nat} {A A2 : Nat → Nat → Prop} {c c2 : Nat → Nat → Nat} {s s2 dm g : Nat → Nat} {y2 : Nat → Nat → Nat}
    (h1 : ∀ l, l < nS → g l < nP → ∀ f, f < nF → (A2 (g l) f ↔ A l f) ∧ (A l f → c2 (g l) f = c l f)) (h3 : ∀ P, P < nP → s2 P = sm (fun l => if g l = P then s l else 0) nS) (h : PLg nP nF A2 s2 dm y2) :
    ∃ y, PLg nS nF A s dm y ∧ tt nS nF y = tt nP nF y2 ∧ ctt nS nF c y = ctt nP nF c2 y2 := by
  obtain ⟨p1, p2, p3⟩ := h
  obtain ⟨y, y1, e2, y3, y4⟩ := spl (nP := nP) (nF := nF) g s nS y2 (fun P hP => by rw [← h3 P hP]; exact p1 P hP)
  have sw : ∀ P (w : Nat → Nat → Nat), sm (fun f => sm (fun l => if g l = P then w l f else 0) nS) nF = sm (fun l => if g l = P then sm (fun f => w l f) nF else 0) nS := by
    intro P w
    rw [← sm_comm (fun l f => if g l = P then w l f else 0) nF nS]
    exact sm_cong (fun l _ => sm_if (g l = P) (fun f => w l f) nF)
  have all : ∀ (h : Nat → Nat), (∀ l, l < nS → ¬ g l < nP → h l = 0) → sm (fun P => sm (fun l => if g l = P then h l else 0) nS) nP = sm h nS := by
    intro h hh
    rw [sm_by g h nS nP]
    refine sm_cong (fun l hl => ?_)
    by_cases z : g l < nP
    · rw [if_pos z]
    · rw [if_neg z, hh l hl z]
  refine ⟨y, ⟨y1, fun f hf => ?_, fun l f hl hf hy => ?_⟩, ?_, ?_⟩
  · rw [← all (fun l => y l f) (fun l hl hg => y3 l hl hg f), sm_cong (fun P hP => e2 P f hP hf)]
    exact p2 f hf
  · by_cases z : g l < nP
    · exact ((h1 l hl z f hf).1).mp (p3 (g l) f z hf (y4 l f hl hf hy))
    · rw [y3 l hl z f] at hy
      exact absurd hy (Nat.lt_irrefl 0)
  · unfold tt
    rw [← all (fun l => sm (fun f => y l f) nF) (fun l hl hg => sm_zero (fun f _ => y3 l hl hg f))]
    refine sm_cong (fun P hP => ?_)
    rw [← sw P y]
    exact sm_cong (fun f hf => e2 P f hP hf)
  · unfold ctt
    rw [← all (fun l => sm (fun f => c l f * y l f) nF) (fun l hl hg => sm_zero (fun f _ => by rw [y3 l hl hg f, Nat.mul_zero]))]
    refine sm_cong (fun P hP => ?_)
    rw [← sw P (fun l f => c l f * y l f)]
    refine sm_cong (fun f hf => ?_)
    rw [← e2 P f hP hf, ← sm_mul]
    refine sm_cong (fun l hl => ?_)
    by_cases z : g l = P
    · rw [if_pos z, if_pos z]
      by_cases yz : 0 < y l f
      · have zz : g l < nP := by omega
        rw [← (h1 l hl zz f hf).2 (((h1 l hl zz f hf).1).mp (p3 (g l) f zz hf (y4 l f hl hf yz))), z]
      · rw [show y l f = 0 by omega, Nat.mul_zero, Nat.mul_zero]
    · rw [if_neg z, if_neg z, Nat.mul_zero]
def BSg (nS nF : Nat) (A : Nat → Nat → Prop) (c : Nat → Nat → Nat) (s dm : Nat → Nat) (F C : Nat) : Prop := (∃ y, PLg nS nF A s dm y ∧ tt nS nF y = F ∧ ctt nS nF c y = C) ∧ ∀ y, PLg nS nF A s dm y → tt nS nF y ≤ F ∧ (tt nS nF y = F → C ≤ ctt nS nF c y)
theorem BST.g {nS nF F C : Nat} {A : Nat → Nat → Prop} {c : Nat → Nat → Nat} {s dm : Nat → Nat} (h10 : nF ≤ 10) (h : BST nS nF A c s dm F C) : BSg nS nF A c s dm F C := by
  obtain ⟨⟨Y, y1, y2, y3⟩, k⟩ := h
  refine ⟨⟨fun l f => Y (10 * l + f), y1, y2, y3⟩, fun y hy => ?_⟩
  have e : ∀ l f, f < nF → y ((10 * l + f) / 10) ((10 * l + f) % 10) = y l f := by
    intro l f hf
    rw [show (10 * l + f) / 10 = l by omega, show (10 * l + f) % 10 = f by omega]
  have e1 : ttl nS nF (fun j => y (j / 10) (j % 10)) = tt nS nF y := sm_cong (fun l _ => sm_cong (fun f hf => e l f hf))
  have e2 : cst nS nF c (fun j => y (j / 10) (j % 10)) = ctt nS nF c y := sm_cong (fun l _ => sm_cong (fun f hf => by dsimp only; rw [e l f hf]))
  have := k (fun j => y (j / 10) (j % 10)) ⟨fun l hl => ?_, fun f hf => ?_, fun l f hl hf => ?_⟩
  · rw [e1, e2] at this
    exact this
  · rw [sm_cong (fun f hf => e l f hf)]; exact hy.1 l hl
  · rw [sm_cong (fun l _ => e l f hf)]; exact hy.2.1 f hf
  · dsimp only
    rw [e l f hf]
    exact hy.2.2 l f hl hf
/-- two stores of plans that can be turned into each other have one best -/
theorem BSg.eq {nS nF nS2 nF2 F C F2 C2 : Nat} {A A2 : Nat → Nat → Prop} {c c2 : Nat → Nat → Nat} {s dm s2 dm2 : Nat → Nat} (h : BSg nS nF A c s dm F C) (h2 : BSg nS2 nF2 A2 c2 s2 dm2 F2 C2)
    (dn : ∀ y, PLg nS nF A s dm y → ∃ y2, PLg nS2 nF2 A2 s2 dm2 y2 ∧ tt nS2 nF2 y2 = tt nS nF y ∧ ctt nS2 nF2 c2 y2 = ctt nS nF c y) (upw : ∀ y2, PLg nS2 nF2 A2 s2 dm2 y2 → ∃ y, PLg nS nF A s dm y ∧ tt nS nF y = tt nS2 nF2 y2 ∧ ctt nS nF c y = ctt nS2 nF2 c2 y2) : F = F2 ∧ C = C2 := by
  obtain ⟨⟨Y, y1, y2, y3⟩, k⟩ := h
  obtain ⟨⟨Z, z1, z2, z3⟩, k2⟩ := h2
  obtain ⟨U, u1, u2, u3⟩ := dn Y y1
  obtain ⟨V, v1, v2, v3⟩ := upw Z z1
  have a := k V v1
  have b := k2 U u1
  have e : F = F2 := by omega
  have a2 := a.2 (by omega)
  have b2 := b.2 (by omega)
  exact ⟨e, by omega⟩
