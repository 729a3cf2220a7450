/-! the class: piles -/
def sv (OS : Nat → Nat) (nE a : Nat) : Nat := sm (fun e => if a ≤ OS e then 1 else 0) nE
theorem sv_le (OS : Nat → Nat) (nE a : Nat) : sv OS nE a ≤ nE := by
  have : sv OS nE a ≤ sm (fun _ => 1) nE := sm_le (fun e _ => by
    by_cases z : a ≤ OS e
    · rw [if_pos z]; exact Nat.le_refl _
    · rw [if_neg z]; exact Nat.zero_le _)
  rw [sm_const] at this
  omega
theorem sv_mono (OS : Nat → Nat) (nE : Nat) {a b : Nat} (h : a ≤ b) : sv OS nE b ≤ sv OS nE a := sm_le (fun e _ => by
  by_cases z : b ≤ OS e
  · rw [if_pos z, if_pos (by omega)]; exact Nat.le_refl _
  · rw [if_neg z]; exact Nat.zero_le _)
theorem sv_eq {OS : Nat → Nat} {nE a b : Nat} (h : a ≤ b) (e : sv OS nE a = sv OS nE b) {x : Nat} (hx : x < nE) : b ≤ OS x ↔ a ≤ OS x := by
  refine ⟨fun y => by omega, fun y => Decidable.byContradiction (fun z => ?_)⟩
  have : sv OS nE b < sv OS nE a := sm_lt (i := x) hx (fun e _ => by
    by_cases z : b ≤ OS e
    · rw [if_pos z, if_pos (by omega)]; exact Nat.le_refl _
    · rw [if_neg z]; exact Nat.zero_le _) (by rw [if_neg z, if_pos y]; omega)
  omega
theorem sv_no {OS : Nat → Nat} {nE a : Nat} (h : sv OS nE a = 0) {x : Nat} (hx : x < nE) : ¬ a ≤ OS x := by
  intro y
  have := sm_part (fun e => if a ≤ OS e then 1 else 0) hx
  rw [if_pos y] at this
  unfold sv at h
  omega
theorem served_ok {nE : Nat} {a : FA} (d x : Nat) (σ : HS) (Q : Option AV → HS → Prop) (hn : nE ≤ 10) (hx : x ≤ 60) (hf : KF σ nE a) (ho : ∀ e, e < nE → a.2.2.1 e ≤ 60) (k : Q (some (vI (nI (sv a.2.2.1 nE x)))) σ) : MT d mX6_feastsServedAt [vR 10 0, vI (nI x)] σ Q := by
  have key : ∀ m j, j + m = nE → atX6_feastsServedAt_4 d Q σ (nI x) (nI (sv a.2.2.1 j x)) (nI j) := by
    intro m
    induction m with
    | zero =>
      intro j hj
      have e : j = nE := by omega
      subst e
      refine wX6_feastsServedAt_4 d Q σ _ _ _ ?_
      rw [hf.1]
      exact ⟨fun _ => k, fun y => absurd (nI_le (Nat.le_refl _) (by omega)) y⟩
    | succ m ih =>
      intro j hj
      have o := ho j (by omega)
      have n := ih (j + 1) (by omega)
      refine wX6_feastsServedAt_4 d Q σ _ _ _ ?_
      rw [hf.1, nI_clamp (show j < 2 ^ 31 by omega), (hf.2 j (by omega)).2.2.1]
      refine ⟨fun y => absurd y (nI_ge (by omega) (by omega)), fun _ => ⟨vp_in_nI (by omega) (by omega), pk_lt (a.2.2.1 j) x (fun y => ?_) (fun y => ?_)⟩⟩
      · rintro _ rfl
        rw [nI_1]
        have e : sv a.2.2.1 (j + 1) x = sv a.2.2.1 j x := by
          unfold sv
          rw [sm_succ, if_neg (by omega)]
          rfl
        rw [e] at n
        exact n
      · rintro _ rfl _ rfl
        rw [nI_1, nI_1]
        have e : sv a.2.2.1 (j + 1) x = sv a.2.2.1 j x + 1 := by
          unfold sv
          rw [sm_succ, if_pos y]
        rw [e] at n
        exact n
  exact wX6_feastsServedAt d _ σ Q (key nE 0 (by omega))
abbrev PB := (Nat → Nat) × (Nat → Nat) × (Nat → Nat)
def KPl (σ : HS) (nP : Nat) (b : PB) : Prop := σ.1 10 0 7 = nI nP ∧ ∀ P, P < nP → σ.1 91 0 P = nI (b.1 P) ∧ σ.1 92 0 P = nI (b.2.1 P) ∧ σ.1 93 0 P = nI (b.2.2 P)
/-- lots done: of towns before t, and of t those of age a1 and above -/
def dn (t a1 l : Nat) : Prop := l / 61 < t ∨ (l / 61 = t ∧ a1 ≤ l % 61)
def GP (w : WD) (κ nE : Nat) (OS : Nat → Nat) (t a1 nP : Nat) (g : Nat → Nat) (b : PB) : Prop := nP ≤ 80 ∧
  (∀ l, l < 61 * wn w → (g l < nP ∧ dn t a1 l ∧ b.1 (g l) = l / 61 ∧ ∀ e, e < nE → (b.2.1 (g l) ≤ OS e ↔ l % 61 ≤ OS e)) ∨ (g l = 1000 ∧ (dn t a1 l → 0 < rs w κ l → ∀ e, e < nE → ¬ l % 61 ≤ OS e))) ∧
  (∀ P, P < nP → b.2.2 P = sm (fun l => if g l = P then rs w κ l else 0) (61 * wn w)) ∧ ∀ P, P < nP → b.1 P < wn w ∧ b.2.1 P ≤ 60
def TP (nE : Nat) (OS : Nat → Nat) (t a1 nP sb : Nat) (b : PB) : Prop := sb ≤ nE ∧ nP ≤ 10 * t + sb ∧ (0 < sb → 0 < nP ∧ b.1 (nP - 1) = t ∧ a1 ≤ b.2.1 (nP - 1) ∧ sv OS nE (b.2.1 (nP - 1)) = sb)
section
variable {G : HS} {w : WD} {κ nE : Nat} {OS : Nat → Nat} {cw : Int32 × Int32}
theorem GP.town {t nP : Nat} {g : Nat → Nat} {b : PB} (h : GP w κ nE OS t 0 nP g b) : GP w κ nE OS (t + 1) 61 nP g b := by
  obtain ⟨h1, h2, h3, h4⟩ := h
  refine ⟨h1, fun l hl => ?_, h3, h4⟩
  have e : dn (t + 1) 61 l ↔ dn t 0 l := by
    unfold dn
    omega
  rw [e]
  exact h2 l hl
theorem dn_s {t a l : Nat} (ha : a < 61) : dn t a l ↔ dn t (a + 1) l ∨ l = 61 * t + a := by
  unfold dn
  omega
theorem GP.un {t a nP : Nat} {g : Nat → Nat} {b : PB} (h : GP w κ nE OS t (a + 1) nP g b) (ht : t < wn w) (ha : a < 61) : g (61 * t + a) = 1000 := by
  rcases h.2.1 (61 * t + a) (by omega) with ⟨-, y, -⟩ | ⟨y, -⟩
  · unfold dn at y
    omega
  · exact y
theorem GP.skip {t a nP : Nat} {g : Nat → Nat} {b : PB} (h : GP w κ nE OS t (a + 1) nP g b) (ht : t < wn w) (ha : a < 61) (no : 0 < rs w κ (61 * t + a) → ∀ e, e < nE → ¬ a ≤ OS e) : GP w κ nE OS t a nP g b := by
  have un := h.un ht ha
  obtain ⟨h1, h2, h3, h4⟩ := h
  refine ⟨h1, fun l hl => ?_, h3, h4⟩
  rcases h2 l hl with ⟨a1, a2, a3⟩ | ⟨a1, a2⟩
  · exact Or.inl ⟨a1, (dn_s ha).mpr (Or.inl a2), a3⟩
  · refine Or.inr ⟨a1, fun y => ?_⟩
    rcases (dn_s ha).mp y with y | rfl
    · exact a2 y
    · rw [show (61 * t + a) % 61 = a by omega]
      exact no
theorem sum_at {n l0 P0 P : Nat} {g r : Nat → Nat} (hl : l0 < n) (hg : g l0 ≠ P) : sm (fun l => if uF g l0 P0 l = P then r l else 0) n = sm (fun l => if g l = P then r l else 0) n + (if P0 = P then r l0 else 0) := by
  have := sm_one (f := fun l => if uF g l0 P0 l = P then r l else 0) (g := fun l => if g l = P then r l else 0) hl (fun k hk hne => by rw [uF_n hne])
  rw [uF_s, if_neg hg] at this
  omega
theorem GP.add {t a nP : Nat} {g : Nat → Nat} {b : PB} (h : GP w κ nE OS t (a + 1) nP g b) (ht : t < wn w) (ha : a < 61) (h0 : 0 < nP) (e1 : b.1 (nP - 1) = t) (e2 : ∀ e, e < nE → (b.2.1 (nP - 1) ≤ OS e ↔ a ≤ OS e)) : GP w κ nE OS t a nP (uF g (61 * t + a) (nP - 1)) (b.1, b.2.1, uF b.2.2 (nP - 1) (b.2.2 (nP - 1) + rs w κ (61 * t + a))) := by
  have un := h.un ht ha
  obtain ⟨h1, h2, h3, h4⟩ := h
  refine ⟨h1, fun l hl => ?_, fun P hP => ?_, h4⟩
  · dsimp only
    by_cases z : l = 61 * t + a
    · subst z
      rw [uF_s]
      refine Or.inl ⟨by omega, (dn_s ha).mpr (Or.inr rfl), by rw [e1]; omega, fun e he => ?_⟩
      rw [show (61 * t + a) % 61 = a by omega]
      exact e2 e he
    · rw [uF_n z]
      rcases h2 l hl with ⟨a1, a2, a3⟩ | ⟨a1, a2⟩
      · exact Or.inl ⟨a1, (dn_s ha).mpr (Or.inl a2), a3⟩
      · refine Or.inr ⟨a1, fun y => ?_⟩
        rcases (dn_s ha).mp y with y | y
        · exact a2 y
        · exact absurd y z
  · dsimp only
    rw [sum_at (by omega) (by omega), ← h3 P hP]
    by_cases z : P = nP - 1
    · rw [z, uF_s, if_pos rfl]
    · rw [uF_n z, if_neg (fun y => z y.symm)]
      rfl
theorem GP.new {t a nP : Nat} {g : Nat → Nat} {b : PB} (h : GP w κ nE OS t (a + 1) nP g b) (ht : t < wn w) (ha : a < 61) (h0 : nP < 80) : GP w κ nE OS t a (nP + 1) (uF g (61 * t + a) nP) (uF b.1 nP t, uF b.2.1 nP a, uF b.2.2 nP (rs w κ (61 * t + a))) := by
  have un := h.un ht ha
  obtain ⟨h1, h2, h3, h4⟩ := h
  refine ⟨by omega, fun l hl => ?_, fun P hP => ?_, fun P hP => ?_⟩
  · dsimp only
    by_cases z : l = 61 * t + a
    · subst z
      rw [uF_s, uF_s, uF_s]
      refine Or.inl ⟨by omega, (dn_s ha).mpr (Or.inr rfl), by omega, fun e he => ?_⟩
      rw [show (61 * t + a) % 61 = a by omega]
    · rw [uF_n z]
      rcases h2 l hl with ⟨a1, a2, a3⟩ | ⟨a1, a2⟩
      · rw [uF_n (by omega), uF_n (by omega)]
        exact Or.inl ⟨by omega, (dn_s ha).mpr (Or.inl a2), a3⟩
      · refine Or.inr ⟨a1, fun y => ?_⟩
        rcases (dn_s ha).mp y with y | y
        · exact a2 y
        · exact absurd y z
  · dsimp only
    rw [sum_at (by omega) (by omega)]
    by_cases z : P = nP
    · rw [z, uF_s, if_pos rfl, sm_zero (fun l hl => ?_)]
      · omega
      · refine if_neg (fun y => ?_)
        rcases h2 l hl with ⟨a1, -⟩ | ⟨a1, -⟩ <;> omega
    · rw [uF_n z, if_neg (fun y => z y.symm), ← h3 P (by omega)]
      rfl
  · dsimp only
    by_cases z : P = nP
    · rw [z, uF_s, uF_s]
      exact ⟨ht, by omega⟩
    · rw [uF_n z, uF_n z]
      exact h4 P (by omega)
def ag (a1 : Nat) : Int32 := if a1 = 0 then -1 else nI (a1 - 1)
theorem ag_s (a : Nat) : ag (a + 1) = nI a := if_neg (by omega)
theorem ag_m (a : Nat) : nI a + (-1) = ag a := by
  match a with
  | 0 => rfl
  | b + 1 => rw [pk_m1, ag_s]
/-- nothing but the piles' rows -/
def KFP (σ σ2 : HS) : Prop := ∀ k, k ≠ 91 → k ≠ 92 → k ≠ 93 → (k = 10 → ∀ i s, s ≠ 7 → σ2.1 k i s = σ.1 k i s) ∧ (k ≠ 10 → σ2.1 k = σ.1 k)
theorem KF.pl {σ σ2 : HS} {a : FA} (h : KF σ nE a) (f : KFP σ σ2) : KF σ2 nE a := by
  refine ⟨?_, fun e he => ?_⟩
  · rw [(f 10 (by decide) (by decide) (by decide)).1 rfl 0 0 (by decide)]; exact h.1
  · rw [(f 85 (by decide) (by decide) (by decide)).2 (by decide), (f 86 (by decide) (by decide) (by decide)).2 (by decide), (f 87 (by decide) (by decide) (by decide)).2 (by decide), (f 88 (by decide) (by decide) (by decide)).2 (by decide)]
    exact h.2 e he
theorem KC.pl {σ σ2 : HS} (h : KC σ cw) (f : KFP σ σ2) : KC σ2 cw := by
  have e := (f 10 (by decide) (by decide) (by decide)).1 rfl
  refine ⟨?_, ?_⟩
  · rw [e 0 _ (by decide)]; exact h.1
  · rw [e 0 _ (by decide)]; exact h.2
theorem KFP.upk {σ : HS} {k i s : Nat} {x : Int32} (hk : (k = 91 ∨ k = 92 ∨ k = 93) ∨ (k = 10 ∧ s = 7)) : KFP σ (up σ k i s x) := by
  intro k' h1 h2 h3
  refine ⟨fun e i' s' hs => ?_, fun e => ?_⟩
  · subst e
    show (if _ then _ else _) = _
    rw [if_neg (fun z => ?_)]
    rcases hk with hk | hk
    · omega
    · exact hs (z.2.2.trans hk.2)
  · exact up_ne (by omega)
end
