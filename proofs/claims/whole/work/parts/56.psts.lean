abbrev CX := (Nat → Nat) × (Nat × Nat × Nat × Nat) × TT
def cU (c : CX) : Nat → Nat := c.1
def cn (c : CX) : Nat := c.2.1.1
def ck (c : CX) : Nat := c.2.1.2.1
def crb (c : CX) : Nat := c.2.1.2.2.1
def cdr (c : CX) : Nat := c.2.1.2.2.2
def tW (c : CX) (i : Nat) : Nat := (c.2.2 i).1
def tV (c : CX) (i : Nat) : Nat := (c.2.2 i).2.1
def tP (c : CX) (i : Nat) : Nat := (c.2.2 i).2.2.1
def CXok (c : CX) : Prop := TSK (cU c) (cn c) (ck c) c.2.2 ∧ cn c ≤ 1000 ∧ crb c < 2 ∧ cdr c < 2
theorem CXok.rng {c : CX} (h : CXok c) {i : Nat} (hi : i ≤ ck c) : tW c i < 128 ∧ tP c i ≤ 1000 ∧ (tW c i = 2 → tV c i ≤ 999999) ∧ (tW c i = 3 → tV c i < 8) ∧ (tW c i = 4 → tV c i < 3) ∧ (tW c i = 13 → tV c i = 0) := TSK_rng h.2.1 h.1 hi
theorem CXok.lt {c : CX} (h : CXok c) {i : Nat} (hi : i ≤ ck c) (hw : 2 ≤ tW c i) : i < ck c := TSK_lt h.1 hi hw
def cT (rb k _i s : Nat) : Bool := (Nat.beq k 0 && (Nat.beq s 15 || Nat.beq s 16 || Nat.beq s 17 || Nat.beq s 18 || Nat.beq s 33 || Nat.beq s 32 || Nat.beq s 13 || Nat.beq s 14)) || ((Nat.beq k 28 || Nat.beq k 29 || Nat.beq k 30) && decide (1000 * rb ≤ s ∧ s < 1000 * rb + 1000))
def cE (rb k i s : Nat) : Bool := cT rb k i s || (Nat.beq k 0 && (Nat.beq s 35 || Nat.beq s 36)) || Nat.beq k 31
theorem cN_T {rb k i s : Nat} (h : cT rb k i s = false) : cN k i s = false := by
  unfold cT at h
  unfold cN
  simp only [Bool.or_eq_false_iff, Bool.and_eq_false_iff] at h ⊢
  rcases h.1 with a | a
  · exact Or.inl a
  · exact Or.inr a.1.1.1.1
theorem cT_E {rb k i s : Nat} (h : cE rb k i s = false) : cT rb k i s = false := by
  unfold cE at h
  simp only [Bool.or_eq_false_iff] at h
  exact h.1.1
theorem Fr.NT {rb : Nat} {σ σ2 : HS} (h : Fr cN σ σ2) : Fr (cT rb) σ σ2 := h.mono (fun _ _ _ => cN_T)
theorem Fr.TE {rb : Nat} {σ σ2 : HS} (h : Fr (cT rb) σ σ2) : Fr (cE rb) σ σ2 := h.mono (fun _ _ _ => cT_E)
theorem Fr.NE {rb : Nat} {σ σ2 : HS} (h : Fr cN σ σ2) : Fr (cE rb) σ σ2 := h.NT.TE
/-- the reference reads at token i: nt terms, q steps of code G -/
def RS (c : CX) (σ : HS) (i nt q : Nat) (G : Nat → GI) : Prop := CXok c ∧ RX σ (cn c) (cU c) ∧ i ≤ ck c ∧ RTk (cU c) σ (c.2.2 i).1 (c.2.2 i).2.1 (c.2.2 i).2.2.1 (c.2.2 i).2.2.2 ∧ (σ.1 0 0 33 = nI nt ∧ nt ≤ 80) ∧ (σ.1 0 0 32 = nI q ∧ q ≤ 900) ∧ (σ.1 0 0 13 = 0 ∧ σ.1 0 0 14 = -1) ∧ σ.1 0 0 31 = nI (crb c) ∧ ∀ j, j < q → RM σ (1000 * crb c + j) (G j)
def RF (c : CX) (σ : HS) (i : Nat) : Prop := (σ.1 0 0 13 = if tW c i = 1 then 1 else 2) ∧ σ.1 0 0 14 = nI (tP c i) ∧ σ.1 0 0 15 = nI (tP c i)
theorem RF.ne {c : CX} {σ : HS} {i : Nat} (h : RF c σ i) : ¬ σ.1 0 0 13 = 0 := by
  rw [h.1]
  by_cases z : tW c i = 1
  · rw [if_pos z]; decide
  · rw [if_neg z]; decide
theorem RS.tk {c : CX} {σ : HS} {i nt q : Nat} {G : Nat → GI} (h : RS c σ i nt q G) : RTk (cU c) σ (tW c i) (tV c i) (tP c i) (c.2.2 i).2.2.2 := h.2.2.2.1
theorem RS.fk {c : CX} {σ : HS} {i nt q : Nat} {G : Nat → GI} (h : RS c σ i nt q G) : σ.1 0 0 13 = 0 := h.2.2.2.2.2.2.1.1
theorem RS.rng {c : CX} {σ : HS} {i nt q : Nat} {G : Nat → GI} (h : RS c σ i nt q G) : tW c i < 128 ∧ tP c i ≤ 1000 ∧ (tW c i = 2 → tV c i ≤ 999999) ∧ (tW c i = 3 → tV c i < 8) ∧ (tW c i = 4 → tV c i < 3) ∧ (tW c i = 13 → tV c i = 0) := h.1.rng h.2.2.1
theorem RM.fr {σ σ2 : HS} {j : Nat} {g : GI} (h : RM σ j g) (h1 : σ2.1 28 0 j = σ.1 28 0 j) (h2 : σ2.1 29 0 j = σ.1 29 0 j) (h3 : σ2.1 30 0 j = σ.1 30 0 j) : RM σ2 j g := by
  unfold RM
  rw [h1, h2, h3]
  exact h
/-- nothing that reading speaks of has changed -/
theorem RS.fr {c : CX} {σ σ2 : HS} {i nt q : Nat} {G : Nat → GI} (h : RS c σ i nt q G) (hN : σ2.2 = σ.2) (ha : ∀ s, s ∈ [12, 15, 16, 17, 18, 33, 32, 13, 14, 31] → σ2.1 0 0 s = σ.1 0 0 s) (hb : ∀ k, k ∈ [20, 28, 29, 30] → σ2.1 k = σ.1 k) : RS c σ2 i nt q G := by
  obtain ⟨h1, h2, h3, h4, h5, h6, h7, h8, h9⟩ := h
  refine ⟨h1, ⟨h2.1, by rw [ha 12 (by simp)]; exact h2.2.1, fun j hj => by rw [hb 20 (by simp)]; exact h2.2.2.1 j hj, h2.2.2.2⟩, h3, ?_, ?_, ?_, ?_, ?_, fun j hj => (h9 j hj).fr (by rw [hb 28 (by simp)]) (by rw [hb 29 (by simp)]) (by rw [hb 30 (by simp)])⟩
  · unfold RTk
    rw [ha 15 (by simp), ha 16 (by simp), ha 17 (by simp), ha 18 (by simp), hN]
    exact h4
  · rw [ha 33 (by simp)]; exact h5
  · rw [ha 32 (by simp)]; exact h6
  · rw [ha 13 (by simp), ha 14 (by simp)]; exact h7
  · rw [ha 31 (by simp)]; exact h8
theorem next_s {c : CX} {i nt q : Nat} {G : Nat → GI} (d : Nat) (σ : HS) (Q : Option AV → HS → Prop) (hd : 2 ≤ d) (h : RS c σ i nt q G) (hw : 2 ≤ tW c i) (k : ∀ σ2, RS c σ2 (i + 1) nt q G → Fr cN σ σ2 → Q none σ2) : MT d mX11_next [vR 0 0] σ Q := by
  obtain ⟨h1, h2, h3, h4, h5, h6, h7, h8, h9⟩ := h
  have hi := h1.lt h3 hw
  refine next_ok d (cn c) (c.2.2 i).2.2.2 _ _ _ _ (cU c) σ Q hd h2 (h4.2.1 hw) (TSK_tk (i := i + 1) h1.1 (by omega)) (fun σ2 t f => k σ2 ⟨h1, h2.fr f rfl (fun _ => rfl), by omega, t, ?_, ?_, ?_, ?_, fun j hj => (h9 j hj).fr (f _ _ _ rfl) (f _ _ _ rfl) (f _ _ _ rfl)⟩ f)
  · rw [f 0 0 33 rfl]; exact h5
  · rw [f 0 0 32 rfl]; exact h6
  · rw [f 0 0 13 rfl, f 0 0 14 rfl]; exact h7
  · rw [f 0 0 31 rfl]; exact h8
theorem wrong_s {c : CX} {i nt q : Nat} {G : Nat → GI} (d : Nat) (σ : HS) (Q : Option AV → HS → Prop) (hd : 1 ≤ d) (h : RS c σ i nt q G) (k : ∀ σ2, RF c σ2 i → Fr (cT (crb c)) σ σ2 → Q none σ2) : MT d mX11_wrong [vR 0 0] σ Q := by
  have ht := h.tk
  have h7 := h.fk
  refine wX11_wrong d σ Q hd ?_
  rw [ht.tok.2.1, ht.1]
  refine ⟨fun z => ?_, fun z => ?_⟩
  · refine wX11_fails (d - 1) _ _ σ _ ⟨fun _ => ?_, fun y => absurd (by rw [h7]; decide) y⟩
    rintro _ rfl _ rfl
    exact ⟨rfl, k _ ⟨by rw [up_f (by decide), up_same, if_neg z], up_same, by rw [up_f (by decide), up_f (by decide)]; exact ht.1⟩ ((Fr.rf.up (by rfl)).up (by rfl))⟩
  · refine wX11_fails (d - 1) _ _ σ _ ⟨fun _ => ?_, fun y => absurd (by rw [h7]; decide) y⟩
    rintro _ rfl _ rfl
    exact ⟨rfl, k _ ⟨by rw [up_f (by decide), up_same, if_pos z], up_same, by rw [up_f (by decide), up_f (by decide)]; exact ht.1⟩ ((Fr.rf.up (by rfl)).up (by rfl))⟩
theorem must_s {c : CX} {i nt q : Nat} {G : Nat → GI} (d w0 : Nat) (x : Int32) (σ : HS) (Q : Option AV → HS → Prop) (hd : 3 ≤ d) (h : RS c σ i nt q G) (hw0 : 2 ≤ w0) (hx : x = 0 ↔ tW c i ≠ w0) (k1 : tW c i = w0 → ∀ σ2, RS c σ2 (i + 1) nt q G → Fr cN σ σ2 → Q none σ2) (k0 : tW c i ≠ w0 → ∀ σ2, RF c σ2 i → Fr (cT (crb c)) σ σ2 → Q none σ2) : MT d mX11_must [vR 0 0, vI x] σ Q := by
  refine wX11_must d _ σ Q (by omega) ⟨fun _ => ⟨fun z => ?_, fun z => ?_⟩, fun y => absurd h.fk y⟩
  · exact wrong_s (d - 1) σ _ (by omega) h (fun σ2 a b => ⟨rfl, k0 (hx.mp z) σ2 a b⟩)
  · have e : tW c i = w0 := Decidable.byContradiction (fun y => z (hx.mpr y))
    exact next_s (d - 1) σ _ (by omega) h (by omega) (fun σ2 a b => ⟨rfl, k1 e σ2 a b⟩)
theorem must_F (d : Nat) (x : Int32) (σ : HS) (Q : Option AV → HS → Prop) (hd : 1 ≤ d) (h : ¬ σ.1 0 0 13 = 0) (k : Q none σ) : MT d mX11_must [vR 0 0, vI x] σ Q :=
  wX11_must d _ σ Q hd ⟨fun z => absurd z h, fun _ => k⟩
theorem bI_iff {P : Prop} [Decidable P] {R : Prop} (h : P ↔ R) : bI P = 0 ↔ ¬ R := by
  by_cases z : P
  · rw [bI_t z]
    exact ⟨fun y => absurd y (by decide), fun y => absurd (h.mp z) y⟩
  · rw [bI_f z]
    exact ⟨fun _ y => z (h.mpr y), fun _ => rfl⟩
/-- a number (w0 = 2) or a town (w0 = 3) -/
theorem aNum_s {c : CX} {i nt q : Nat} {G : Nat → GI} (d w0 : Nat) (σ : HS) (Q : Option AV → HS → Prop) (hd : 4 ≤ d) (h : RS c σ i nt q G) (hw0 : w0 = 2 ∨ w0 = 3) (k1 : tW c i = w0 → ∀ σ2, RS c σ2 (i + 1) nt q G → Fr cN σ σ2 → Q (some (vI (nI (tV c i)))) σ2) (k0 : tW c i ≠ w0 → ∀ x σ2, RF c σ2 i → Fr (cT (crb c)) σ σ2 → Q (some (vI x)) σ2) : MT d mX11_aNumber [vR 0 0, vI (nI (w0 + 1))] σ Q := by
  have ht := h.tk
  have e1 : σ.1 0 0 17 = nI (w0 + 1) ↔ tW c i = w0 := by
    rcases hw0 with rfl | rfl
    · exact ht.tok.2.2.1
    · exact ht.tok.2.2.2.1
  have e2 : tW c i = w0 → σ.1 0 0 18 = nI (tV c i) := by
    intro z
    rcases ht.2.2 with ⟨h1, h2⟩ | ⟨h1, h2⟩ | ⟨h1, h2, h3⟩ | ⟨h1, h2, h3⟩ | ⟨h1, h1', h2, _⟩ | ⟨h1, h2, h3⟩
    · omega
    · omega
    · exact h3
    · exact h3
    · omega
    · omega
  refine wX11_aNumber d _ σ Q (by omega) ?_
  rintro _ rfl
  rw [e1]
  refine ⟨fun z => ?_, fun z => ?_⟩
  · exact must_s (d - 1) w0 0 σ _ (by omega) h (by omega) ⟨fun _ => z, fun _ => rfl⟩ (fun y => absurd y z) (fun _ σ2 a b => ⟨rfl, k0 z _ σ2 a b⟩)
  · exact must_s (d - 1) w0 1 σ _ (by omega) h (by omega) ⟨fun y => absurd y (by decide), fun y => absurd z y⟩ (fun _ σ2 a b => ⟨rfl, by rw [e2 z]; exact k1 z σ2 a b⟩) (fun y => absurd z y)
theorem aNum_F (d : Nat) (x : Int32) (σ : HS) (Q : Option AV → HS → Prop) (hd : 2 ≤ d) (h : ¬ σ.1 0 0 13 = 0) (k : ∀ y, Q (some (vI y)) σ) : MT d mX11_aNumber [vR 0 0, vI x] σ Q := by
  refine wX11_aNumber d _ σ Q (by omega) ?_
  rintro _ rfl
  exact ⟨fun _ => must_F _ _ σ _ (by omega) h ⟨rfl, k _⟩, fun _ => must_F _ _ σ _ (by omega) h ⟨rfl, k _⟩⟩
theorem kindHere_s {c : CX} {i nt q : Nat} {G : Nat → GI} (d : Nat) (σ : HS) (Q : Option AV → HS → Prop) (hd : 1 ≤ d) (h : RS c σ i nt q G) (k1 : tW c i = 4 → Q (some (vI (nI (tV c i)))) σ) (k0 : tW c i ≠ 4 → Q (some (vI (-1))) σ) : MT d mX11_kindHere [vR 0 0] σ Q := by
  have ht := h.tk
  refine wX11_kindHere d σ Q hd ?_
  rw [ht.k0, ht.k1, ht.k2]
  have hr := h.rng.2.2.2.2.1
  refine ⟨fun z0 => ⟨fun z1 => ⟨fun z2 => k0 (fun z => ?_), fun z => ?_⟩, fun z => ?_⟩, fun z => ?_⟩
  · have := hr z
    omega
  · have := k1 z.1
    rw [z.2] at this
    exact this
  · have := k1 z.1
    rw [z.2] at this
    exact this
  · have := k1 z.1
    rw [z.2] at this
    exact this
theorem aKind_s {c : CX} {i nt q : Nat} {G : Nat → GI} (d : Nat) (σ : HS) (Q : Option AV → HS → Prop) (hd : 4 ≤ d) (h : RS c σ i nt q G) (k1 : tW c i = 4 → ∀ σ2, RS c σ2 (i + 1) nt q G → Fr cN σ σ2 → Q (some (vI (nI (tV c i)))) σ2) (k0 : tW c i ≠ 4 → ∀ x σ2, RF c σ2 i → Fr (cT (crb c)) σ σ2 → Q (some (vI x)) σ2) : MT d mX11_aKind [vR 0 0] σ Q := by
  have hr := h.rng.2.2.2.2.1
  refine wX11_aKind d σ Q (by omega) (kindHere_s (d - 1) σ _ (by omega) h (fun z => ⟨_, rfl, fun y => ?_, fun y => ?_⟩) (fun z => ⟨_, rfl, fun y => ?_, fun y => ?_⟩))
  · exact absurd y (nI_pos (by have := hr z; omega))
  · exact must_s (d - 1) 4 1 σ _ (by omega) h (by omega) ⟨fun y => absurd y (by decide), fun y => absurd z y⟩ (fun _ σ2 a b => ⟨rfl, k1 z σ2 a b⟩) (fun y => absurd z y)
  · exact must_s (d - 1) 4 0 σ _ (by omega) h (by omega) ⟨fun _ => z, fun _ => rfl⟩ (fun y => absurd y z) (fun _ σ2 a b => ⟨rfl, k0 z _ σ2 a b⟩)
  · exact absurd (by decide) y
theorem aKind_F (d : Nat) (σ : HS) (Q : Option AV → HS → Prop) (hd : 2 ≤ d) (h : ¬ σ.1 0 0 13 = 0) (k : ∀ y, Q (some (vI y)) σ) : MT d mX11_aKind [vR 0 0] σ Q := by
  have a : ∀ y, (y < 0 → (MT (d - 1) mX11_must [vR 0 0, vI 0] σ (fun r σ_7 => r = none ∧ Q (some (vI y)) σ_7))) ∧ (¬ y < 0 → (MT (d - 1) mX11_must [vR 0 0, vI 1] σ (fun r σ_9 => r = none ∧ Q (some (vI y)) σ_9))) := fun y => ⟨fun _ => must_F _ _ σ _ (by omega) h ⟨rfl, k _⟩, fun _ => must_F _ _ σ _ (by omega) h ⟨rfl, k _⟩⟩
  refine wX11_aKind d σ Q (by omega) (wX11_kindHere (d - 1) σ _ (by omega) ⟨fun _ => ⟨fun _ => ⟨fun _ => ⟨_, rfl, a _⟩, fun _ => ⟨_, rfl, a _⟩⟩, fun _ => ⟨_, rfl, a _⟩⟩, fun _ => ⟨_, rfl, a _⟩⟩)
theorem cT_code {rb j : Nat} (i : Nat) (hj : j < 1000) : cT rb 28 i (1000 * rb + j) = true ∧ cT rb 29 i (1000 * rb + j) = true ∧ cT rb 30 i (1000 * rb + j) = true := by
  have : decide (1000 * rb ≤ 1000 * rb + j ∧ 1000 * rb + j < 1000 * rb + 1000) = true := decide_eq_true ⟨by omega, by omega⟩
  unfold cT
  rw [this]
  refine ⟨rfl, rfl, rfl⟩
theorem step_s {c : CX} {i nt q : Nat} {G : Nat → GI} (d : Nat) (g : GI) (a1 a2 : Int32) (σ : HS) (Q : Option AV → HS → Prop) (h : RS c σ i nt q G) (hq : q < 900) (g1 : (g.1 = 110 ∨ g.1 = 112 ∨ g.1 = 114 ∨ g.1 = 115 ∨ g.1 = 111) → a1 = nI g.2.1) (g2 : (g.1 = 115 ∨ g.1 = 111) → a2 = nI g.2.2) (k : ∀ σ2, RS c σ2 i nt (q + 1) (uF G q g) → Fr (cT (crb c)) σ σ2 → Q none σ2) : MT d mX11_step [vR 0 0, vI (nI g.1), vI a1, vI a2] σ Q := by
  obtain ⟨h1, h2, h3, h4, h5, h6, h7, h8, h9⟩ := h
  have hrb := h1.2.2.1
  have ix : (1000 : Int32) * σ.1 0 0 31 + σ.1 0 0 32 = nI (1000 * crb c + q) := by
    rw [h8, h6.1, show (1000 : Int32) = nI 1000 from rfl, pk_mul, nI_add]
  have vx : vp_in (nI (1000 * crb c + q)) 2000 := vp_in_nI (by omega) (by omega)
  have tc := cT_code (rb := crb c) (j := q) 0 (by omega)
  refine wX11_step d _ _ _ σ Q ?_
  rw [ix]
  refine ⟨vx, ?_⟩
  rintro _ rfl
  rw [up_ne (show (0 : Nat) ≠ 28 by decide), ix]
  refine ⟨vx, ?_⟩
  rintro _ rfl
  rw [up_ne (show (0 : Nat) ≠ 29 by decide), up_ne (show (0 : Nat) ≠ 28 by decide), ix]
  refine ⟨vx, ?_⟩
  rintro _ rfl _ rfl
  rw [up_ne (show (0 : Nat) ≠ 30 by decide), up_ne (show (0 : Nat) ≠ 29 by decide), up_ne (show (0 : Nat) ≠ 28 by decide), h6.1, nI_1, nI_clamp (by omega)]
  have fr : Fr (cT (crb c)) σ (up (up (up (up σ 28 0 (1000 * crb c + q) (nI g.1)) 29 0 (1000 * crb c + q) a1) 30 0 (1000 * crb c + q) a2) 0 0 32 (nI (q + 1))) := (((Fr.rf.up tc.1).up tc.2.1).up tc.2.2).up rfl
  refine k _ ⟨h1, h2.fr fr rfl (fun _ => rfl), h3, ?_, ?_, ⟨up_same, by omega⟩, ?_, ?_, fun j hj => ?_⟩ fr
  · unfold RTk
    simp only [up_f (show (15 : Nat) ≠ 32 by decide), up_f (show (16 : Nat) ≠ 32 by decide), up_f (show (17 : Nat) ≠ 32 by decide), up_f (show (18 : Nat) ≠ 32 by decide), up_ne (show (0 : Nat) ≠ 30 by decide), up_ne (show (0 : Nat) ≠ 29 by decide), up_ne (show (0 : Nat) ≠ 28 by decide), up_2]
    exact h4
  · rw [up_f (by decide), up_ne (show (0 : Nat) ≠ 30 by decide), up_ne (show (0 : Nat) ≠ 29 by decide), up_ne (show (0 : Nat) ≠ 28 by decide)]; exact h5
  · rw [up_f (show (13 : Nat) ≠ 32 by decide), up_f (show (14 : Nat) ≠ 32 by decide), up_ne (show (0 : Nat) ≠ 30 by decide), up_ne (show (0 : Nat) ≠ 29 by decide), up_ne (show (0 : Nat) ≠ 28 by decide)]; exact h7
  · rw [up_f (by decide), up_ne (show (0 : Nat) ≠ 30 by decide), up_ne (show (0 : Nat) ≠ 29 by decide), up_ne (show (0 : Nat) ≠ 28 by decide)]; exact h8
  · by_cases z : j = q
    · subst z
      rw [uF_s]
      refine ⟨?_, fun z => ?_, fun z => ?_⟩
      · rw [up_ne (show (28 : Nat) ≠ 0 by decide), up_ne (show (28 : Nat) ≠ 30 by decide), up_ne (show (28 : Nat) ≠ 29 by decide), up_same]
      · rw [up_ne (show (29 : Nat) ≠ 0 by decide), up_ne (show (29 : Nat) ≠ 30 by decide), up_same, g1 z]
      · rw [up_ne (show (30 : Nat) ≠ 0 by decide), up_same, g2 z]
    · rw [uF_n z]
      refine (h9 j (by omega)).fr ?_ ?_ ?_
      · rw [up_ne (show (28 : Nat) ≠ 0 by decide), up_ne (show (28 : Nat) ≠ 30 by decide), up_ne (show (28 : Nat) ≠ 29 by decide), up_f (by omega)]
      · rw [up_ne (show (29 : Nat) ≠ 0 by decide), up_ne (show (29 : Nat) ≠ 30 by decide), up_f (by omega), up_ne (show (29 : Nat) ≠ 28 by decide)]
      · rw [up_ne (show (30 : Nat) ≠ 0 by decide), up_f (by omega), up_ne (show (30 : Nat) ≠ 29 by decide), up_ne (show (30 : Nat) ≠ 28 by decide)]
