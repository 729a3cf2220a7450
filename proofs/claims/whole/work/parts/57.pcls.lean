/-! the class reads -/
def cC (dr k i s : Nat) : Bool := (Nat.beq k 6 && (Nat.beq s 1 || Nat.beq s 2)) || (Nat.beq k 7 && Nat.beq i dr && Nat.beq s 1) || (Nat.beq k 71 && Nat.beq i dr)
def CP (c : CX) (σ : HS) (i : Nat) : Prop := CXok c ∧ SC σ (ck c) c.2.2 ∧ i ≤ ck c ∧ σ.1 6 0 1 = nI i ∧ σ.1 6 0 5 = nI (cdr c)
def CS (c : CX) (σ : HS) (i nt q : Nat) (G : Nat → GI) : Prop := CP c σ i ∧ (σ.1 6 0 2 = nI nt ∧ nt ≤ 80) ∧ (σ.1 7 (cdr c) 1 = nI q ∧ 2 * q ≤ 11 * nt) ∧ ∀ j, j < q → gOK (G j) ∧ σ.1 71 (cdr c) j = nI (gE (G j))
theorem CP.sz {c : CX} {σ : HS} {i : Nat} (h : CP c σ i) : ¬ σ.1 8 0 3 ≤ σ.1 6 0 1 ∧ vp_in (σ.1 6 0 1) 1002 ∧ (σ.1 6 0 1).toNatClampNeg = i ∧ CTk σ c.2.2 i := by
  obtain ⟨h1, ⟨z, z1, z2, z3, z4⟩, h3, h4, h5⟩ := h
  rw [h4, z3]
  exact ⟨nI_ge (by omega) (by omega), vp_in_nI (by omega) (by omega), nI_clamp (by omega), z4 i h3⟩
theorem here_s {c : CX} {i : Nat} (d : Nat) (σ : HS) (Q : Option AV → HS → Prop) (h : CP c σ i) (k : Q (some (vI (nI (tW c i)))) σ) : MT d mX4_here [vR 6 0] σ Q := by
  obtain ⟨h1, h2, h3, h4⟩ := h.sz
  refine wX4_here d σ Q ⟨fun z => absurd z h1, fun _ => ⟨h2, ?_⟩⟩
  rw [h3, h4.1]
  exact k
theorem val_s {c : CX} {i : Nat} (d : Nat) (σ : HS) (Q : Option AV → HS → Prop) (h : CP c σ i) (k : Q (some (vI (nI (tV c i)))) σ) : MT d mX4_valueHere [vR 6 0] σ Q := by
  obtain ⟨h1, h2, h3, h4⟩ := h.sz
  refine wX4_valueHere d σ Q ⟨fun z => absurd z h1, fun _ => ⟨h2, ?_⟩⟩
  rw [h3, h4.2.1]
  exact k
def upAt (σ : HS) (i : Nat) : HS := up σ 6 0 1 (nI i)
theorem acc_s {c : CX} {i : Nat} (d w0 : Nat) (σ : HS) (Q : Option AV → HS → Prop) (h : CP c σ i) (hw : w0 < 128) (k1 : tW c i = w0 → Q (some (vI 1)) (upAt σ (i + 1))) (k0 : tW c i ≠ w0 → Q (some (vI 0)) σ) : MT d mX4_accept [vR 6 0, vI (nI w0)] σ Q := by
  obtain ⟨h1, h2, h3, h4⟩ := h.sz
  have hr := h.1.rng h.2.2.1
  refine wX4_accept d _ σ Q ⟨fun z => absurd z h1, fun _ => ⟨h2, ?_⟩⟩
  rw [h3, h4.1]
  refine And.symm (pk_eq (tW c i) w0 (fun z => ?_) (fun z => k0 z))
  rintro _ rfl
  rw [h.2.2.2.1, nI_1]
  exact k1 z
theorem SC.fr {c : Nat → Nat → Nat → Bool} {σ σ2 : HS} {k : Nat} {tk : TT} (h : SC σ k tk) (f : Fr c σ σ2) (h0 : c 8 0 3 = false) (h1 : ∀ s, c 78 0 s = false) (h2 : ∀ s, c 79 0 s = false) (h3 : ∀ s, c 80 0 s = false) : SC σ2 k tk := by
  obtain ⟨z, z1, z2, z3, z4⟩ := h
  refine ⟨z, z1, z2, by rw [f _ _ _ h0]; exact z3, fun j hj => ?_⟩
  obtain ⟨a, b, e⟩ := z4 j hj
  exact ⟨by rw [f _ _ _ (h1 j)]; exact a, by rw [f _ _ _ (h2 j)]; exact b, by rw [f _ _ _ (h3 j)]; exact e⟩
theorem upAt_fr {σ : HS} {i dr : Nat} : Fr (cC dr) σ (upAt σ i) := Fr.rf.up rfl
theorem CP.at {c : CX} {σ : HS} {i : Nat} (h : CP c σ i) (hw : 2 ≤ tW c i) : CP c (upAt σ (i + 1)) (i + 1) := by
  obtain ⟨h1, h2, h3, h4, h5⟩ := h
  exact ⟨h1, h2.fr (upAt_fr (dr := 0)) rfl (fun _ => rfl) (fun _ => rfl) (fun _ => rfl), h1.lt h3 hw, up_same, by unfold upAt; rw [up_f (by decide)]; exact h5⟩
theorem CS.at {c : CX} {σ : HS} {i nt q : Nat} {G : Nat → GI} (h : CS c σ i nt q G) (hw : 2 ≤ tW c i) : CS c (upAt σ (i + 1)) (i + 1) nt q G := by
  obtain ⟨h1, h2, h3, h4⟩ := h
  refine ⟨h1.at hw, ?_, ?_, fun j hj => ?_⟩
  · unfold upAt; rw [up_f (by decide)]; exact h2
  · unfold upAt; rw [up_ne (by decide)]; exact h3
  · unfold upAt; rw [up_ne (by decide)]; exact h4 j hj
theorem add_s {c : CX} {i nt q : Nat} {G : Nat → GI} (d w v : Nat) (g : GI) (σ : HS) (Q : Option AV → HS → Prop) (h : CS c σ i nt q G) (hq : 2 * (q + 1) ≤ 11 * nt) (hw : w < 64) (hv : v < 2 ^ 20) (hg : gOK g) (he : gE g = 64 * v + w) (k : ∀ σ2, CS c σ2 i nt (q + 1) (uF G q g) → Fr (cC (cdr c)) σ σ2 → Q none σ2) : MT d mX5_addStep [vR 7 (cdr c), vI (nI w), vI (nI v)] σ Q := by
  obtain ⟨h1, h2, h3, h4⟩ := h
  have hdr := h1.1.2.2.2
  refine wX5_addStep d _ _ _ σ Q hdr ?_
  rw [h3.1]
  refine ⟨fun z => absurd z (nI_ge (a := q) (b := 512) (by omega) (by omega)), fun _ => ⟨vp_in_nI (by omega) (by omega), ?_⟩⟩
  rintro _ rfl _ rfl
  rw [up_ne (show (7 : Nat) ≠ 71 by decide), h3.1, nI_1, nI_clamp (by omega), nI_pack hv hw, ← he]
  have fr : Fr (cC (cdr c)) σ (up (up σ 71 (cdr c) q (nI (gE g))) 7 (cdr c) 1 (nI (q + 1))) := by
    refine (Fr.rf.up ?_).up ?_
    · simp [cC]
    · simp [cC]
  refine k _ ⟨⟨h1.1, h1.2.1.fr fr (by simp [cC]) (fun _ => by simp [cC]) (fun _ => by simp [cC]) (fun _ => by simp [cC]), h1.2.2.1, ?_, ?_⟩, ⟨?_, h2.2⟩, ⟨up_same, by omega⟩, fun j hj => ?_⟩ fr
  · rw [up_ne (by decide), up_ne (by decide)]; exact h1.2.2.2.1
  · rw [up_ne (by decide), up_ne (by decide)]; exact h1.2.2.2.2
  · rw [up_ne (by decide), up_ne (by decide)]; exact h2.1
  · rw [up_ne (show (71 : Nat) ≠ 7 by decide)]
    by_cases z : j = q
    · subst z
      rw [uF_s, up_same]
      exact ⟨hg, rfl⟩
    · rw [uF_n z, up_f z]
      exact h4 j (by omega)
/-! heights -/
def HG (G : Nat → GI) (q q2 h h2 : Nat) : Prop := ∃ hg : Nat → Nat, hg q = h ∧ hg q2 = h2 ∧ ∀ x, q ≤ x → x < q2 → mvR (nI (G x).1) (hg x) (hg (x + 1))
theorem HG.rf {G : Nat → GI} {q h : Nat} : HG G q q h h := ⟨fun _ => h, rfl, rfl, fun x a b => by omega⟩
theorem HG.tr {G : Nat → GI} {q q2 q3 h h2 h3 : Nat} (a : HG G q q2 h h2) (b : HG G q2 q3 h2 h3) (l : q ≤ q2) (l2 : q2 ≤ q3) : HG G q q3 h h3 := by
  obtain ⟨f, f1, f2, f3⟩ := a
  obtain ⟨g, g1, g2, g3⟩ := b
  refine ⟨fun x => if x < q2 then f x else g x, ?_, ?_, fun x a b => ?_⟩
  · by_cases z : q < q2
    · simp only [if_pos z]; exact f1
    · have : q = q2 := by omega
      subst this
      simp only [if_neg (Nat.lt_irrefl q)]
      rw [g1, ← f2, f1]
  · by_cases z : q3 < q2
    · omega
    · simp only [if_neg z]; exact g2
  · by_cases z : x + 1 < q2
    · simp only [if_pos z, if_pos (show x < q2 by omega)]
      exact f3 x a (by omega)
    · by_cases y : x < q2
      · have e : x + 1 = q2 := by omega
        simp only [if_pos y, if_neg z]
        have := f3 x a y
        rw [e] at this ⊢
        rw [g1, ← f2]
        exact this
      · simp only [if_neg y, if_neg z]
        exact g3 x (by omega) b
theorem HG.ext {G G2 : Nat → GI} {q q2 h h2 : Nat} (a : HG G q q2 h h2) (e : ∀ x, q ≤ x → x < q2 → G2 x = G x) : HG G2 q q2 h h2 := by
  obtain ⟨f, f1, f2, f3⟩ := a
  exact ⟨f, f1, f2, fun x a b => by rw [e x a b]; exact f3 x a b⟩
theorem HG.one {G : Nat → GI} {q h h2 : Nat} {g : GI} (m : mvR (nI g.1) h h2) : HG (uF G q g) q (q + 1) h h2 := by
  refine ⟨fun x => if x = q then h else h2, if_pos rfl, if_neg (by omega), fun x a b => ?_⟩
  have : x = q := by omega
  subst this
  rw [uF_s]
  dsimp only
  rw [if_pos rfl, if_neg (by omega)]
  exact m
def Ex (G : Nat → GI) (q : Nat) (G2 : Nat → GI) : Prop := ∀ x, x < q → G2 x = G x
theorem Ex.rf {G : Nat → GI} {q : Nat} : Ex G q G := fun _ _ => rfl
theorem Ex.tr {G G2 G3 : Nat → GI} {q q2 : Nat} (a : Ex G q G2) (b : Ex G2 q2 G3) (l : q ≤ q2) : Ex G q G3 := fun x h => (b x (by omega)).trans (a x h)
theorem Ex.uF {G : Nat → GI} {q : Nat} {g : GI} : Ex G q (uF G q g) := fun x h => uF_n (by omega)
theorem mv_leaf {x h : Nat} (hx : x = 110 ∨ x = 109 ∨ x = 112 ∨ x = 115 ∨ x = 111 ∨ x = 114) (hh : h < 32) : mvR (nI x) h (h + 1) := Or.inl ⟨nI_le (a := 97) (by omega) (by omega), nI_le (b := 122) (by omega) (by omega), hh, rfl⟩
theorem mv_not {h : Nat} (hh : 1 ≤ h) : mvR (nI 126) h h := Or.inr (Or.inl ⟨rfl, hh, rfl⟩)
theorem mv_two {x h : Nat} (hx : x = 43 ∨ x = 45 ∨ x = 60 ∨ x = 61 ∨ x = 62 ∨ x = 38 ∨ x = 124) (hh : 1 ≤ h) : mvR (nI x) (h + 1) h := by
  refine Or.inr (Or.inr ⟨fun z => ?_, fun z => ?_, by omega, rfl⟩)
  · have z1 := (nI_leI (a := 97) (b := x) (by omega) (by omega)).mp z.1
    have z2 := (nI_leI (a := x) (b := 122) (by omega) (by omega)).mp z.2
    omega
  · have := (nI_eq (a := x) (b := 126) (by omega) (by omega)).mp z
    omega
