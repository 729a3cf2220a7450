/-! feasts: the world as both see it -/
abbrev WD := (Nat × Nat × Nat) × (Nat → Nat) × ((Nat → Nat) × (Nat → Nat) × (Nat → Nat) × (Nat → Nat)) × (Nat → Nat → Option Nat) × (Nat → Nat)
def wn (w : WD) : Nat := w.1.1
def wm (w : WD) : Nat := w.1.2.1
def wf (w : WD) : Nat := w.1.2.2
def wkp (w : WD) : Nat → Nat := w.2.1
def wft (w : WD) : Nat → Nat := w.2.2.1.1
def wfm (w : WD) : Nat → Nat := w.2.2.1.2.1
def wfk (w : WD) : Nat → Nat := w.2.2.1.2.2.1
def wfw (w : WD) : Nat → Nat := w.2.2.1.2.2.2
def wwy (w : WD) : Nat → Nat → Option Nat := w.2.2.2.1
def wls (w : WD) : Nat → Nat := w.2.2.2.2
def oI : Option Nat → Int32
  | none => -1
  | some x => nI x
def WO1 (G : HS) (w : WD) : Prop := wn w ≤ 8 ∧ wm w ≤ 2000 ∧ wf w ≤ 10 ∧ (G.1 0 0 7 = nI (wn w) ∧ G.1 2 0 3 = nI (wn w)) ∧ (G.1 0 0 8 = nI (wm w) ∧ G.1 2 0 4 = nI (wm w)) ∧ (G.1 0 0 55 = nI (wf w) ∧ G.1 9 0 4 = nI (wf w))
def WO2 (G : HS) (w : WD) : Prop := ∀ k, k < 3 → G.1 16 0 k = nI (wkp w k) ∧ G.1 62 0 k = nI (wkp w k) ∧ wkp w k ≤ 60
def WO3 (G : HS) (w : WD) : Prop := ∀ f, f < wf w → (G.1 38 0 f = nI (wft w f) ∧ G.1 81 0 f = nI (wft w f) ∧ wft w f < wn w) ∧ (G.1 39 0 f = nI (wfm w f) ∧ G.1 82 0 f = nI (wfm w f) ∧ wfm w f ≤ 2000) ∧ (G.1 40 0 f = nI (wfk w f) ∧ G.1 83 0 f = nI (wfk w f) ∧ wfk w f < 3) ∧ (G.1 41 0 f = nI (wfw w f) ∧ G.1 84 0 f = nI (wfw w f) ∧ wfw w f ≤ 10000)
def WO4 (G : HS) (w : WD) : Prop := ∀ a b, a < 8 → b < 8 → G.1 15 0 (8 * a + b) = oI (wwy w a b) ∧ G.1 61 a b = oI (wwy w a b) ∧ ∀ x, wwy w a b = some x → x ≤ 200
def WO5 (G : HS) (w : WD) : Prop := (∀ j, j < 1464 → G.1 17 0 j = nI (wls w j) ∧ wls w j ≤ 100000) ∧ ∀ r a, r < 24 → a < 61 → G.1 65 r a = nI (wls w (61 * r + a))
def WO (G : HS) (w : WD) : Prop := WO1 G w ∧ WO2 G w ∧ WO3 G w ∧ WO4 G w ∧ WO5 G w
theorem Inv.world {G : HS} (hI : Inv G) : ∃ w, WO G w := by
  obtain ⟨h1, h2, h3, h4, h5, h6, h7, h8, h9, h10, h11, h12, h13, h14⟩ := hI
  obtain ⟨n, a1, a2, a3, a4⟩ := h1
  obtain ⟨m, b1, b2, b3⟩ := h2
  obtain ⟨nf, c1, c2, c3, c4⟩ := h12
  refine ⟨((n, m, nf), (fun k => vN (G.1 16 0 k)), ((fun f => vN (G.1 38 0 f)), (fun f => vN (G.1 39 0 f)), (fun f => vN (G.1 40 0 f)), (fun f => vN (G.1 41 0 f))), (fun a b => if G.1 15 0 (8 * a + b) = -1 then none else some (vN (G.1 15 0 (8 * a + b)))), (fun j => vN (G.1 17 0 j))), ⟨a1, b1, c1, ⟨a2, a3⟩, ⟨b2, b3⟩, ⟨c2, c3⟩⟩, fun k hk => ?_, fun f hf => ?_, fun a b ha hb => ?_, fun j hj => ?_, fun r a hr ha => ?_⟩
  · obtain ⟨e1, x, x1, x2, e2⟩ := h5 k hk
    show G.1 16 0 k = nI (vN (G.1 16 0 k)) ∧ G.1 62 0 k = nI (vN (G.1 16 0 k)) ∧ vN (G.1 16 0 k) ≤ 60
    rw [e1, e2, vN_nI (by omega)]
    exact ⟨rfl, rfl, x2⟩
  · obtain ⟨e1, e2, e3, e4, ⟨t, t1, t2⟩, ⟨x, x1, x2⟩, ⟨k, k1, k2⟩, y, y1, y2, y3⟩ := c4 f hf
    show (G.1 38 0 f = nI (vN (G.1 38 0 f)) ∧ G.1 81 0 f = nI (vN (G.1 38 0 f)) ∧ vN (G.1 38 0 f) < n) ∧ (G.1 39 0 f = nI (vN (G.1 39 0 f)) ∧ G.1 82 0 f = nI (vN (G.1 39 0 f)) ∧ vN (G.1 39 0 f) ≤ 2000) ∧ (G.1 40 0 f = nI (vN (G.1 40 0 f)) ∧ G.1 83 0 f = nI (vN (G.1 40 0 f)) ∧ vN (G.1 40 0 f) < 3) ∧ (G.1 41 0 f = nI (vN (G.1 41 0 f)) ∧ G.1 84 0 f = nI (vN (G.1 41 0 f)) ∧ vN (G.1 41 0 f) ≤ 10000)
    rw [a2, vN_nI (by omega)] at t1
    rw [e1, e2, e3, e4, t2, x2, k2, y3, vN_nI (by omega), vN_nI (by omega), vN_nI (by omega), vN_nI (by omega)]
    exact ⟨⟨rfl, rfl, t1⟩, ⟨rfl, rfl, x1⟩, ⟨rfl, rfl, k1⟩, ⟨rfl, rfl, y2⟩⟩
  · obtain ⟨e1, e2, e3⟩ := h4 a b ha hb
    show G.1 15 0 (8 * a + b) = oI (if G.1 15 0 (8 * a + b) = -1 then none else some (vN (G.1 15 0 (8 * a + b)))) ∧ G.1 61 a b = oI (if G.1 15 0 (8 * a + b) = -1 then none else some (vN (G.1 15 0 (8 * a + b)))) ∧ ∀ x, (if G.1 15 0 (8 * a + b) = -1 then none else some (vN (G.1 15 0 (8 * a + b)))) = some x → x ≤ 200
    rw [e1]
    have key : G.1 15 0 (8 * a + b) = -1 ∨ ∃ x, x ≤ 200 ∧ G.1 15 0 (8 * a + b) = nI x := by
      by_cases z : a = b
      · exact Or.inr ⟨0, by omega, e2 z⟩
      · rcases e3 z with y | ⟨x, x1, x2, x3⟩
        · exact Or.inl y
        · exact Or.inr ⟨x, x2, x3⟩
    rcases key with z | ⟨x, x1, x2⟩
    · rw [z, if_pos rfl]
      exact ⟨rfl, rfl, fun x y => nomatch y⟩
    · have ne : ¬ nI x = -1 := fun z => by
        have := nI_toInt (n := x) (by omega)
        rw [z] at this
        have e : (-1 : Int32).toInt = -1 := rfl
        omega
      rw [x2, if_neg ne, vN_nI (by omega)]
      refine ⟨rfl, rfl, fun y hy => ?_⟩
      have := Option.some.inj hy
      omega
  · have := isN_vN (h6.1 j hj) (by omega)
    exact ⟨this.1, this.2⟩
  · show G.1 65 r a = nI (vN (G.1 17 0 (61 * r + a)))
    rw [h6.2.1 r a hr ha]
    exact (isN_vN (h6.1 (61 * r + a) (by omega)) (by omega)).1
/-! the reference's feasts of a kind -/
def rA (w : WD) (κ l f : Nat) : Prop := wfk w f = κ ∧ ∃ x, wwy w (l / 61) (wft w f) = some x ∧ wm w + (x + 29) / 30 ≤ wfm w f ∧ l % 61 + wfm w f ≤ wkp w κ + wm w
def rc (w : WD) (l f : Nat) : Nat := (wwy w (l / 61) (wft w f)).getD 0
def rs (w : WD) (κ l : Nat) : Nat := wls w ((l / 61 * 3 + κ) * 61 + l % 61)
def rd (w : WD) (κ f : Nat) : Nat := if wfk w f = κ then wfw w f else 0
theorem rc_le {G : HS} {w : WD} (h : WO G w) {l f : Nat} (hl : l < 61 * wn w) (hf : f < wf w) : rc w l f ≤ 200 := by
  have h1 := h.1.1
  have h3 := (h.2.2.1 f hf).1.2.2
  have := (h.2.2.2.1 (l / 61) (wft w f) (by omega) (by omega)).2.2
  unfold rc
  match e : wwy w (l / 61) (wft w f) with
  | none => exact Nat.zero_le _
  | some x => exact this x e
theorem lx8 {l t : Nat} (hl : l < 488) : (8 : Int32) * (nI l / 61) + nI t = nI (8 * (l / 61) + t) := by
  rw [show (61 : Int32) = nI 61 from rfl, pk_div (by omega) (by omega) (by omega), show (8 : Int32) = nI 8 from rfl, pk_mul, nI_add]
theorem daysOf_ok {G : HS} {w : WD} {l f : Nat} (d : Nat) (σ : HS) (Q : Option AV → HS → Prop) (h : WO G w) (hs : Sim G σ) (hl : l < 61 * wn w) (hf : f < wf w) (k : Q (some (vI (oI (wwy w (l / 61) (wft w f))))) σ) : MT d mX11_daysOf [vR 0 0, vI (nI l), vI (nI f)] σ Q := by
  have h1 := h.1.1
  have h2 := h.1.2.2.1
  obtain ⟨a1, a2, a3⟩ := (h.2.2.1 f hf).1
  refine wX11_daysOf d _ _ σ Q ?_
  rw [nI_clamp (by omega), hs 38 0 f rfl, a1, lx8 (by omega), nI_clamp (by omega), hs 15 0 _ rfl, (h.2.2.2.1 (l / 61) (wft w f) (by omega) (by omega)).1]
  exact ⟨vp_in_nI (by omega) (by omega), vp_in_nI (by omega) (by omega), k⟩
theorem canGo_ok {G : HS} {w : WD} {κ l f : Nat} (d : Nat) (σ : HS) (Q : Option AV → HS → Prop) (hd : 1 ≤ d) (h : WO G w) (hs : Sim G σ) (hl : l < 61 * wn w) (hf : f < wf w) (hk : wfk w f = κ) (k1 : rA w κ l f → Q (some (vI 1)) σ) (k0 : ¬ rA w κ l f → Q (some (vI 0)) σ) : MT d mX11_canGo [vR 0 0, vI (nI l), vI (nI f)] σ Q := by
  have h1 := h.1.1
  have h2 := h.1.2.2.1
  have h3 := h.1.2.1
  obtain ⟨⟨a1, a2, a3⟩, ⟨b1, b2, b3⟩, ⟨c1, c2, c3⟩, -⟩ := h.2.2.1 f hf
  obtain ⟨e1, e2, e3⟩ := h.2.1 (wfk w f) c3
  have wy := h.2.2.2.1 (l / 61) (wft w f) (by omega) (by omega)
  have vx : vp_in (nI f) 10 := vp_in_nI (by omega) (by omega)
  refine wX11_canGo d _ _ σ Q hd ?_
  rw [nI_clamp (show f < 2 ^ 31 by omega), hs 38 0 f rfl, a1, lx8 (by omega), nI_clamp (show 8 * (l / 61) + wft w f < 2 ^ 31 by omega), hs 15 0 _ rfl, wy.1]
  refine ⟨vx, vp_in_nI (by omega) (by omega), ?_⟩
  rintro _ rfl
  match e : wwy w (l / 61) (wft w f) with
  | none =>
    refine ⟨fun _ => k0 (fun z => ?_), fun y => absurd (by decide) y⟩
    obtain ⟨-, x, x1, -⟩ := z
    rw [e] at x1
    exact nomatch x1
  | some x =>
    have x2 := wy.2.2 x e
    refine ⟨fun y => absurd y (nI_pos (by omega)), fun _ => ⟨vx, ?_⟩⟩
    have em : σ.1 0 0 8 + (oI (some x) + 29) / 30 = nI (wm w + (x + 29) / 30) := by
      rw [hs 0 0 8 rfl, h.1.2.2.2.2.1.1]
      show nI (wm w) + (nI x + nI 29) / nI 30 = _
      rw [nI_add, pk_div (by omega) (by omega) (by omega), nI_add]
    rw [em, hs 39 0 f rfl, b1, hs 40 0 f rfl, c1, nI_clamp (show wfk w f < 2 ^ 31 by omega), hs 16 0 _ rfl, e1]
    refine pk_lt (wfm w f) (wm w + (x + 29) / 30) (fun z => k0 (fun y => ?_)) (fun z => ⟨vx, vx, vp_in_nI c3 (by omega), ?_⟩)
    · obtain ⟨-, x3, x4, x5, -⟩ := y
      rw [e] at x4
      have := Option.some.inj x4
      subst this
      omega
    · have ea : (nI l - nI l / 61 * 61 + nI (wfm w f)) - σ.1 0 0 8 = nI (l % 61 + wfm w f - wm w) := by
        rw [hs 0 0 8 rfl, h.1.2.2.2.2.1.1, show (61 : Int32) = nI 61 from rfl, pk_rem (by omega) (by omega) (by omega), nI_add, pk_sub (by omega)]
      rw [ea]
      refine pk_lt (wkp w (wfk w f)) (l % 61 + wfm w f - wm w) (fun z2 => k0 (fun y => ?_)) (fun z2 => k1 ⟨hk, x, e, z, ?_⟩)
      · obtain ⟨-, x3, x4, x5, x6⟩ := y
        rw [← hk] at x6
        omega
      · rw [← hk]
        omega
