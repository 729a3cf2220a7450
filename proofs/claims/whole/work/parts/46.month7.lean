/-- the orders that rule, with their numbers -/
def OB (σ : HS) (r b nl : Nat) (st : Nat → Nat) : Prop := r < 2 ∧ b < 2 ∧ nl ≤ 12 ∧ σ.1 6 0 4 = nI r ∧ σ.1 6 0 5 = nI (1 - r) ∧ σ.1 0 0 30 = nI b ∧ σ.1 7 r 3 = nI nl ∧ σ.1 21 0 b = nI nl ∧ st 0 = 0 ∧ st nl ≤ 500 ∧
  (∀ l, l < nl → st l ≤ st (l + 1) ∧ st (l + 1) ≤ 500 ∧ σ.1 73 r l = nI (st (l + 1)) ∧ σ.1 22 0 (12 * b + l) = nI (st l) ∧ σ.1 23 0 (12 * b + l) = nI (st (l + 1)) ∧
    σ.1 74 r l = σ.1 24 0 (12 * b + l) ∧ isN (σ.1 24 0 (12 * b + l)) 999999 ∧ σ.1 75 r l = σ.1 25 0 (12 * b + l) ∧ (∃ k, k < 3 ∧ σ.1 25 0 (12 * b + l) = nI k) ∧
    σ.1 76 r l = σ.1 26 0 (12 * b + l) ∧ isN (σ.1 26 0 (12 * b + l)) 7 ∧ σ.1 77 r l = σ.1 27 0 (12 * b + l) ∧ isN (σ.1 27 0 (12 * b + l)) 7 ∧ σ.1 26 0 (12 * b + l) ≠ σ.1 27 0 (12 * b + l) ∧
    ∃ hg : Nat → Nat, hg (st l) = 0 ∧ hg (st (l + 1)) ≤ 1 ∧ ∀ q, st l ≤ q → q < st (l + 1) → mvR (σ.1 28 0 (1000 * b + q)) (hg q) (hg (q + 1))) ∧
  ∀ q, q < st nl → encR (σ.1 28 0 (1000 * b + q)) (σ.1 29 0 (1000 * b + q)) (σ.1 30 0 (1000 * b + q)) (σ.1 71 r q)
theorem st_mono {st : Nat → Nat} {nl : Nat} (h : ∀ l, l < nl → st l ≤ st (l + 1)) : ∀ m l, l + m ≤ nl → st l ≤ st (l + m)
  | 0, _, _ => Nat.le_refl _
  | m + 1, l, hl => Nat.le_trans (st_mono h m l (by omega)) (h (l + m) (by omega))
/-- one step on a pile of values -/
def evS (G : HS) (S : MS) (b q : Nat) (p : (Nat → Int32) × Nat) : (Nat → Int32) × Nat :=
  if G.1 28 0 (1000 * b + q) = 126 then (uF p.1 (p.2 - 1) (1 - p.1 (p.2 - 1)), p.2)
  else if 97 ≤ G.1 28 0 (1000 * b + q) ∧ G.1 28 0 (1000 * b + q) ≤ 122 then (uF p.1 p.2 (lfP G S (G.1 28 0 (1000 * b + q)) (G.1 29 0 (1000 * b + q)) (G.1 30 0 (1000 * b + q))), p.2 + 1)
  else (uF p.1 (p.2 - 2) (twP (G.1 28 0 (1000 * b + q)) (p.1 (p.2 - 2)) (p.1 (p.2 - 1))), p.2 - 1)
def evR (G : HS) (S : MS) (b q0 : Nat) : Nat → (Nat → Int32) × Nat
  | 0 => (fun _ => 0, 0)
  | n + 1 => evS G S b (q0 + n) (evR G S b q0 n)
def hoP (G : HS) (S : MS) (b s e : Nat) : Prop := (evR G S b s (e - s)).2 = 0 ∨ (evR G S b s (e - s)).1 0 ≠ 0
theorem evS_h {G : HS} {S : MS} {b q h2 : Nat} {p : (Nat → Int32) × Nat} (hm : mvR (G.1 28 0 (1000 * b + q)) p.2 h2) : (evS G S b q p).2 = h2 := by
  unfold evS
  rcases hm with ⟨c1, c2, c3, c4⟩ | ⟨c1, c2, c3⟩ | ⟨c1, c2, c3, c4⟩
  · rw [if_neg (fun z => by rw [z] at c2; exact absurd c2 (by decide)), if_pos ⟨c1, c2⟩]
    exact c4.symm
  · rw [if_pos c1]
    exact c3.symm
  · rw [if_neg c2, if_neg c1]
    show p.2 - 1 = h2
    omega
theorem CC.scr {σ : HS} {S : MS} {i s : Nat} {x : Int32} (h : CC σ S) : CC (up σ 72 i s x) S :=
  ⟨h.1.kinds (up_ne (by decide)) (up_ne (by decide)), ⟨by rw [up_ne (by decide)]; exact h.2.1.1, h.2.1.2.kinds (up_ne (by decide)) (up_ne (by decide)) (up_ne (by decide)) (up_ne (by decide)) (up_ne (by decide))⟩, h.2.2.1.kinds (up_ne (by decide)), by rw [up_ne (by decide)]; exact h.2.2.2⟩
theorem CM.scr {σ : HS} {S : MS} {i s : Nat} {x : Int32} (h : CM σ S) : CM (up σ 32 i s x) S :=
  ⟨h.1.kinds (up_ne (by decide)), ⟨by rw [up_ne (by decide)]; exact h.2.1.1, h.2.1.2.kinds (up_ne (by decide)) (up_ne (by decide)) (up_ne (by decide)) (up_ne (by decide)) (up_ne (by decide))⟩, h.2.2.1.kinds (up_ne (by decide)), by rw [up_ne (by decide)]; exact h.2.2.2⟩
theorem cho_loop (d : Nat) (G : HS) (S : MS) (r b nl l : Nat) (st hg : Nat → Nat) (σ0 : HS) (Q : Option AV → HS → Prop) (hd : 3 ≤ d) (hI : Inv G) (hO : OB G r b nl st) (hl : l < nl) (hA : FrA G σ0) (hT : WT G S.1) (g0 : hg (st l) = 0) (gm : ∀ q, st l ≤ q → q < st (l + 1) → mvR (G.1 28 0 (1000 * b + q)) (hg q) (hg (q + 1)))
    (h : ∀ σ2, CC σ2 S → FrC σ0 σ2 → (hoP G S b (st l) (st (l + 1)) → Q (some (vI 1)) σ2) ∧ (¬ hoP G S b (st l) (st (l + 1)) → Q (some (vI 0)) σ2)) :
    ∀ m n σ, n + m = st (l + 1) - st l → FrC σ0 σ → CC σ S → (evR G S b (st l) n).2 = hg (st l + n) → (∀ j, j < hg (st l + n) → σ.1 72 r j = (evR G S b (st l) n).1 j) → hg (st l + n) ≤ 32 → atX5_holds_24 d Q σ r (nI l) (nI (hg (st l + n))) (nI (st l + n)) := by
  obtain ⟨hr, hb, hnl, _, _, _, _, _, s0, s1, hL, hE⟩ := hO
  obtain ⟨a1, a2, a3, _⟩ := hL l hl
  have hst := st_mono (fun l hl => (hL l hl).1) (nl - (l + 1)) (l + 1) (by omega)
  rw [show l + 1 + (nl - (l + 1)) = nl by omega] at hst
  have vl : vp_in (nI l) 12 := vp_in_nI (by omega) (by omega)
  intro m
  induction m with
  | zero =>
    intro n σ hn f0 c0 e1 e2 e32
    have es : σ.1 73 = G.1 73 := (hA.c f0).k (by decide) (by decide)
    obtain ⟨h1, h2⟩ := h σ c0 f0
    have en : n = st (l + 1) - st l := by omega
    have e3 : st l + n = st (l + 1) := by omega
    unfold hoP at h1 h2
    rw [← en, e1] at h1 h2
    refine wX5_holds_24 d Q σ r _ _ _ (by omega) hr ⟨vl, fun _ => ⟨fun z => h1 (Or.inl ?_), fun z => ?_⟩, fun z => absurd ?_ z⟩
    · rw [← nI_0] at z
      exact (nI_eq (by omega) (by omega)).mp z
    · have z' : hg (st l + n) ≠ 0 := fun y => z (by rw [y]; rfl)
      rw [e2 0 (by omega)]
      exact ⟨fun y => h2 (fun x => x.elim z' (fun w => w y)), fun y => h1 (Or.inr y)⟩
    · rw [nI_clamp (by omega), es, a3, e3]
      exact nI_le (Nat.le_refl _) (by omega)
  | succ m ih =>
    intro n σ hn f0 c0 e1 e2 e32
    have hA2 := hA.c f0
    have es : σ.1 73 = G.1 73 := hA2.k (by decide) (by decide)
    have eq : σ.1 71 = G.1 71 := hA2.k (by decide) (by decide)
    have he := hE (st l + n) (by omega)
    have hm := gm (st l + n) (by omega) (by omega)
    have ev : evR G S b (st l) (n + 1) = evS G S b (st l + n) (evR G S b (st l) n) := rfl
    have hh : (evR G S b (st l) (n + 1)).2 = hg (st l + (n + 1)) := by rw [ev]; exact evS_h (by rw [e1]; exact hm)
    have vs : vp_in (nI (st l + n)) 512 := vp_in_nI (by omega) (by omega)
    have ih := ih (n + 1)
    rw [hh, ev] at ih
    unfold evS at ih
    rw [e1] at ih
    have n1 : st l + (n + 1) = st l + n + 1 := by omega
    rw [n1] at ih
    refine wX5_holds_24 d Q σ r _ _ _ (by omega) hr ⟨vl, fun z => ?_, fun _ => ⟨vs, ?_⟩⟩
    · rw [nI_clamp (by omega), es, a3] at z
      exact absurd z (nI_ge (by omega) (by omega))
    rw [nI_clamp (n := st l + n) (by omega), eq]
    rintro _ rfl
    refine ⟨vs, ?_⟩
    rintro _ rfl
    rcases hm with ⟨c1, c2, c3, c4⟩ | ⟨c1, c2, c3⟩ | ⟨c1, c2, c3, c4⟩
    · rw [if_neg (fun z => by rw [z] at c2; exact absurd c2 (by decide)), if_pos ⟨c1, c2⟩, c4] at ih
      obtain ⟨t1, t2⟩ := cleaf_ok (d - 1) G S _ _ _ _ σ (fun r_1 σ_69 => ∃ r_71, r_1 = some (vI r_71) ∧ (vp_in (nI (hg (st l + n))) 32 ∧ ∀ σ_74 : HS, σ_74 = up σ_69 72 r (nI (hg (st l + n))).toNatClampNeg r_71 → (∀ x_75 : Int32, x_75 = nI (hg (st l + n)) + 1 → (∀ x_77 : Int32, x_77 = nI (st l + n) + 1 → atX5_holds_24 d Q σ_74 r (nI l) x_75 x_77)))) (by omega) hI hA2 c0 hT he ⟨c1, c2⟩ ⟨_, rfl, vp_in_nI c3 (by omega), by
        rintro _ rfl _ rfl _ rfl
        rw [nI_clamp (by omega), nI_1, nI_1]
        refine ih _ (by omega) (f0.set (by decide) (by decide)) c0.scr rfl (fun j hj => ?_) (by omega)
        rw [up_k]
        dsimp only
        by_cases z : j = hg (st l + n)
        · rw [if_pos ⟨rfl, z⟩, z, uF_s]
        · rw [if_neg (fun y => z y.2), uF_n z]
          exact e2 j (by omega)⟩
      exact ⟨fun z => absurd t1 z, fun _ => ⟨fun z => absurd z (nI_ge (a := hg (st l + n)) (b := 32) c3 (by omega)), fun _ => t2⟩⟩
    · rw [if_pos c1, c3] at ih
      have e12 : (G.1 71 r (st l + n)) &&& 63 = 12 := by
        rw [c1] at he
        rcases he with ⟨z, _⟩ | ⟨z, _⟩ | ⟨z, _⟩ | ⟨z, _⟩ | ⟨z, _⟩ | ⟨z, _⟩ | ⟨z, _⟩ | ⟨z, _⟩ | ⟨z, _⟩ | ⟨z, _⟩ | ⟨z, _⟩ | ⟨z, _⟩ | ⟨z, _⟩ | ⟨_, z⟩
        iterate 13 exact absurd z (by decide)
        rw [z]
        decide
      have vh : vp_in (nI (hg (st l + n) - 1)) 32 := vp_in_nI (by omega) (by omega)
      have eh : nI (hg (st l + n)) - 1 = nI (hg (st l + n) - 1) := pk_sub (b := 1) c2
      rw [e12, eh, nI_clamp (by omega), e2 _ (by omega)]
      refine ⟨fun _ => ⟨fun z => absurd rfl z, fun _ => ⟨fun z => absurd z (nI_nle c2 (by omega)), fun _ => ⟨vh, vh, ?_⟩⟩⟩, fun z => absurd z (by decide)⟩
      rintro _ rfl _ rfl
      rw [nI_1]
      refine ih _ (by omega) (f0.set (by decide) (by decide)) c0.scr rfl (fun j hj => ?_) (by omega)
      rw [up_k]
      dsimp only
      by_cases z : j = hg (st l + n) - 1
      · rw [if_pos ⟨rfl, z⟩, z, uF_s]
      · rw [if_neg (fun y => z y.2), uF_n z]
        exact e2 j (by omega)
    · rw [if_neg c2, if_neg c1] at ih
      have eh : nI (hg (st l + n)) + (-1) = nI (hg (st l + n) - 1) := by
        have := pk_m1 (hg (st l + n) - 1)
        rwa [Nat.sub_add_cancel (by omega)] at this
      have eh2 : nI (hg (st l + n) - 1) - 1 = nI (hg (st l + n) - 2) := pk_sub (b := 1) (by omega)
      have c4' : hg (st l + n + 1) = hg (st l + n) - 1 := by omega
      rw [c4'] at ih
      have v1 : vp_in (nI (hg (st l + n) - 1)) 32 := vp_in_nI (by omega) (by omega)
      have v2 : vp_in (nI (hg (st l + n) - 2)) 32 := vp_in_nI (by omega) (by omega)
      obtain ⟨t1, t2, t3⟩ := cjoin_ok (d - 1) _ _ _ _ (σ.1 72 r (hg (st l + n) - 2)) (σ.1 72 r (hg (st l + n) - 1)) σ (fun r_1 σ_44 => ∃ r_46, r_1 = some (vI r_46) ∧ (vp_in (nI (hg (st l + n) - 2)) 32 ∧ ∀ σ_49 : HS, σ_49 = up σ_44 72 r (nI (hg (st l + n) - 2)).toNatClampNeg r_46 → (∀ x_50 : Int32, x_50 = nI (st l + n) + 1 → atX5_holds_24 d Q σ_49 r (nI l) (nI (hg (st l + n) - 1)) x_50))) he c1 c2 ⟨_, rfl, v2, by
        rintro _ rfl _ rfl
        rw [nI_clamp (by omega), nI_1]
        refine ih _ (by omega) (f0.set (by decide) (by decide)) c0.scr rfl (fun j hj => ?_) (by omega)
        rw [up_k]
        dsimp only
        by_cases z : j = hg (st l + n) - 2
        · rw [if_pos ⟨rfl, z⟩, z, uF_s, e2 _ (by omega), e2 _ (by omega)]
        · rw [if_neg (fun y => z y.2), uF_n z]
          exact e2 j (by omega)⟩
      refine ⟨fun _ => ⟨fun _ => ⟨fun z => absurd z (nI_ge (a := 1) (b := hg (st l + n)) (by omega) (by omega)), fun _ => ?_⟩, fun z => absurd z t2⟩, fun z => absurd z t1⟩
      rintro _ rfl
      rw [eh, eh2]
      refine ⟨v2, v1, ?_⟩
      rw [nI_clamp (n := hg (st l + n) - 2) (by omega), nI_clamp (n := hg (st l + n) - 1) (by omega)]
      rw [nI_clamp (n := hg (st l + n) - 2) (by omega)] at t3
      exact t3
theorem cho_ok (d : Nat) (G : HS) (S : MS) (r b nl l : Nat) (st : Nat → Nat) (σ : HS) (Q : Option AV → HS → Prop) (hd : 3 ≤ d) (hI : Inv G) (hO : OB G r b nl st) (hl : l < nl) (hA : FrA G σ) (hc : CC σ S) (hT : WT G S.1)
    (h : ∀ σ2, CC σ2 S → FrC σ σ2 → (hoP G S b (st l) (st (l + 1)) → Q (some (vI 1)) σ2) ∧ (¬ hoP G S b (st l) (st (l + 1)) → Q (some (vI 0)) σ2)) : MT d mX5_holds [vR 7 r, vI (nI l), vR 2 0] σ Q := by
  have hO2 := hO
  obtain ⟨hr, hb, hnl, _, _, _, _, _, s0, s1, hL, hE⟩ := hO2
  obtain ⟨a1, a2, a3, _, _, _, _, _, _, _, _, _, _, _, hg, g0, g1, gm⟩ := hL l hl
  have es : σ.1 73 = G.1 73 := hA.k (by decide) (by decide)
  have key := cho_loop d G S r b nl l st hg σ Q hd hI hO hl hA hT g0 gm h (st (l + 1) - st l) 0 σ (by omega) FrC.rf hc (by rw [Nat.add_zero, g0]; rfl) (fun j hj => by rw [Nat.add_zero, g0] at hj; omega) (by rw [Nat.add_zero, g0]; omega)
  rw [Nat.add_zero, g0, nI_0] at key
  refine wX5_holds d r _ σ Q hr ⟨fun z => ?_, fun z => ?_⟩
  · rw [← nI_0] at z
    have z' := (nI_leI (by omega) (by omega)).mp z
    have : l = 0 := by omega
    subst this
    rw [s0, nI_0] at key
    exact key
  · have z' : l ≠ 0 := fun y => z (by rw [y]; decide)
    have e : nI l - 1 = nI (l - 1) := pk_sub (b := 1) (by omega)
    rw [e]
    refine ⟨vp_in_nI (by omega) (by omega), ?_⟩
    rintro _ rfl
    have := (hL (l - 1) (by omega)).2.2.1
    rw [Nat.sub_add_cancel (by omega)] at this
    rw [nI_clamp (by omega), es, this]
    exact key
theorem mho_loop (d : Nat) (G : HS) (S : MS) (r b nl l : Nat) (st hg : Nat → Nat) (σ0 : HS) (Q : Option AV → HS → Prop) (hd : 4 ≤ d) (hI : Inv G) (hO : OB G r b nl st) (hl : l < nl) (hA : FrA G σ0) (hT : WT G S.1) (g0 : hg (st l) = 0) (gm : ∀ q, st l ≤ q → q < st (l + 1) → mvR (G.1 28 0 (1000 * b + q)) (hg q) (hg (q + 1)))
    (h : ∀ σ2, CM σ2 S → FrM σ0 σ2 → (hoP G S b (st l) (st (l + 1)) → Q (some (vI 1)) σ2) ∧ (¬ hoP G S b (st l) (st (l + 1)) → Q (some (vI 0)) σ2)) :
    ∀ m n σ, n + m = st (l + 1) - st l → FrM σ0 σ → CM σ S → (evR G S b (st l) n).2 = hg (st l + n) → (∀ j, j < hg (st l + n) → σ.1 32 0 j = (evR G S b (st l) n).1 j) → hg (st l + n) ≤ 32 → atX11_holds_18 d Q σ (nI (12 * b + l)) (nI (hg (st l + n))) (nI (1000 * b + (st l + n))) := by
  obtain ⟨hr, hb, hnl, _, _, eb, _, _, s0, s1, hL, hE⟩ := hO
  obtain ⟨a1, a2, a3, a4, a5, _⟩ := hL l hl
  have hst := st_mono (fun l hl => (hL l hl).1) (nl - (l + 1)) (l + 1) (by omega)
  rw [show l + 1 + (nl - (l + 1)) = nl by omega] at hst
  have vl : vp_in (nI (12 * b + l)) 24 := vp_in_nI (by omega) (by omega)
  intro m
  induction m with
  | zero =>
    intro n σ hn f0 c0 e1 e2 e32
    have es : σ.1 23 = G.1 23 := (hA.m f0).k (by decide) (by decide)
    have eb2 : σ.1 0 0 30 = nI b := ((hA.m f0).2.2.2 0 _ (by decide) (by decide)).trans eb
    obtain ⟨h1, h2⟩ := h σ c0 f0
    have en : n = st (l + 1) - st l := by omega
    have e3 : st l + n = st (l + 1) := by omega
    unfold hoP at h1 h2
    rw [← en, e1] at h1 h2
    refine wX11_holds_18 d Q σ _ _ _ (by omega) ⟨vl, fun _ => ⟨fun z => h1 (Or.inl ?_), fun z => ?_⟩, fun z => absurd ?_ z⟩
    · rw [← nI_0] at z
      exact (nI_eq (by omega) (by omega)).mp z
    · have z' : hg (st l + n) ≠ 0 := fun y => z (by rw [y]; rfl)
      rw [e2 0 (by omega)]
      exact ⟨fun y => h2 (fun x => x.elim z' (fun w => w y)), fun y => h1 (Or.inr y)⟩
    · rw [nI_clamp (by omega), es, a5, e3, eb2, show (1000 : Int32) = nI 1000 from rfl, pk_mul, nI_add]
      exact nI_le (Nat.le_refl _) (by omega)
  | succ m ih =>
    intro n σ hn f0 c0 e1 e2 e32
    have hA2 := hA.m f0
    have es : σ.1 23 = G.1 23 := hA2.k (by decide) (by decide)
    have eb2 : σ.1 0 0 30 = nI b := (hA2.2.2.2 0 _ (by decide) (by decide)).trans eb
    have eq : σ.1 28 = G.1 28 := hA2.k (by decide) (by decide)
    have eq2 : σ.1 29 = G.1 29 := hA2.k (by decide) (by decide)
    have eq3 : σ.1 30 = G.1 30 := hA2.k (by decide) (by decide)
    have he := hE (st l + n) (by omega)
    have hm := gm (st l + n) (by omega) (by omega)
    have ev : evR G S b (st l) (n + 1) = evS G S b (st l + n) (evR G S b (st l) n) := rfl
    have hh : (evR G S b (st l) (n + 1)).2 = hg (st l + (n + 1)) := by rw [ev]; exact evS_h (by rw [e1]; exact hm)
    have vs : vp_in (nI (1000 * b + (st l + n))) 2000 := vp_in_nI (by omega) (by omega)
    have ih := ih (n + 1)
    rw [hh, ev] at ih
    unfold evS at ih
    rw [e1] at ih
    have n1 : st l + (n + 1) = st l + n + 1 := by omega
    have n2 : 1000 * b + (st l + n + 1) = 1000 * b + (st l + n) + 1 := by omega
    rw [n1, n2] at ih
    refine wX11_holds_18 d Q σ _ _ _ (by omega) ⟨vl, fun z => ?_, fun _ => ⟨vs, ?_⟩⟩
    · rw [nI_clamp (by omega), es, a5, eb2, show (1000 : Int32) = nI 1000 from rfl, pk_mul, nI_add] at z
      exact absurd z (nI_ge (by omega) (by omega))
    rw [nI_clamp (n := 1000 * b + (st l + n)) (by omega), eq, eq2, eq3]
    rintro _ rfl
    rcases hm with ⟨c1, c2, c3, c4⟩ | ⟨c1, c2, c3⟩ | ⟨c1, c2, c3, c4⟩
    · have c126 : ¬ G.1 28 0 (1000 * b + (st l + n)) = 126 := fun z => by rw [z] at c2; exact absurd c2 (by decide)
      rw [if_neg c126, if_pos ⟨c1, c2⟩, c4] at ih
      refine ⟨fun _ => ⟨fun z => absurd ⟨c1, c2⟩ z, fun _ => ⟨vs, vs, ?_⟩⟩, fun z => absurd z c126⟩
      refine mleaf_ok (d - 1) G S _ _ _ _ σ _ (by omega) hI hA2 c0 hT he ⟨c1, c2⟩ ⟨_, rfl, vp_in_nI (by omega) (by omega), ?_⟩
      rintro _ rfl _ rfl _ rfl
      rw [nI_clamp (by omega), nI_1, nI_1]
      refine ih _ (by omega) (f0.set (by decide) (by decide)) c0.scr rfl (fun j hj => ?_) (by omega)
      rw [up_k]
      dsimp only
      by_cases z : j = hg (st l + n)
      · rw [if_pos ⟨rfl, z⟩, z, uF_s]
      · rw [if_neg (fun y => z y.2), uF_n z]
        exact e2 j (by omega)
    · rw [if_pos c1, c3] at ih
      have vh : vp_in (nI (hg (st l + n) - 1)) 100 := vp_in_nI (by omega) (by omega)
      have eh : nI (hg (st l + n)) - 1 = nI (hg (st l + n) - 1) := pk_sub (b := 1) c2
      refine ⟨fun z => absurd c1 z, fun _ => ?_⟩
      rw [eh, nI_clamp (by omega), e2 _ (by omega)]
      refine ⟨vh, vh, ?_⟩
      rintro _ rfl _ rfl
      rw [nI_1]
      refine ih _ (by omega) (f0.set (by decide) (by decide)) c0.scr rfl (fun j hj => ?_) (by omega)
      rw [up_k]
      dsimp only
      by_cases z : j = hg (st l + n) - 1
      · rw [if_pos ⟨rfl, z⟩, z, uF_s]
      · rw [if_neg (fun y => z y.2), uF_n z]
        exact e2 j (by omega)
    · rw [if_neg c2, if_neg c1] at ih
      have eh : nI (hg (st l + n)) + (-1) = nI (hg (st l + n) - 1) := by
        have := pk_m1 (hg (st l + n) - 1)
        rwa [Nat.sub_add_cancel (by omega)] at this
      have eh2 : nI (hg (st l + n) - 1) - 1 = nI (hg (st l + n) - 2) := pk_sub (b := 1) (by omega)
      have c4' : hg (st l + n + 1) = hg (st l + n) - 1 := by omega
      rw [c4'] at ih
      have v1 : vp_in (nI (hg (st l + n) - 1)) 100 := vp_in_nI (by omega) (by omega)
      have v2 : vp_in (nI (hg (st l + n) - 2)) 100 := vp_in_nI (by omega) (by omega)
      refine ⟨fun _ => ⟨fun _ => ?_, fun z => absurd z c1⟩, fun z => absurd z c2⟩
      rintro _ rfl
      rw [eh, eh2]
      refine ⟨v2, v1, ?_⟩
      rw [nI_clamp (n := hg (st l + n) - 2) (by omega), nI_clamp (n := hg (st l + n) - 1) (by omega)]
      refine mtwo_ok (d - 1) _ _ _ _ _ _ σ _ he c1 c2 ⟨_, rfl, v2, ?_⟩
      rintro _ rfl _ rfl
      rw [nI_1]
      refine ih _ (by omega) (f0.set (by decide) (by decide)) c0.scr rfl (fun j hj => ?_) (by omega)
      rw [up_k]
      dsimp only
      by_cases z : j = hg (st l + n) - 2
      · rw [if_pos ⟨rfl, z⟩, z, uF_s, e2 _ (by omega), e2 _ (by omega)]
      · rw [if_neg (fun y => z y.2), uF_n z]
        exact e2 j (by omega)
theorem mho_ok (d : Nat) (G : HS) (S : MS) (r b nl l : Nat) (st : Nat → Nat) (σ : HS) (Q : Option AV → HS → Prop) (hd : 4 ≤ d) (hI : Inv G) (hO : OB G r b nl st) (hl : l < nl) (hA : FrA G σ) (hc : CM σ S) (hT : WT G S.1)
    (h : ∀ σ2, CM σ2 S → FrM σ σ2 → (hoP G S b (st l) (st (l + 1)) → Q (some (vI 1)) σ2) ∧ (¬ hoP G S b (st l) (st (l + 1)) → Q (some (vI 0)) σ2)) : MT d mX11_holds [vR 0 0, vI (nI (12 * b + l))] σ Q := by
  have hO2 := hO
  obtain ⟨hr, hb, hnl, _, _, eb, _, _, s0, s1, hL, hE⟩ := hO2
  obtain ⟨a1, a2, a3, a4, _, _, _, _, _, _, _, _, _, _, hg, g0, g1, gm⟩ := hL l hl
  have es : σ.1 22 = G.1 22 := hA.k (by decide) (by decide)
  have eb2 : σ.1 0 0 30 = nI b := (hA.2.2.2 0 _ (by decide) (by decide)).trans eb
  have key := mho_loop d G S r b nl l st hg σ Q hd hI hO hl hA hT g0 gm h (st (l + 1) - st l) 0 σ (by omega) FrM.rf hc (by rw [Nat.add_zero, g0]; rfl) (fun j hj => by rw [Nat.add_zero, g0] at hj; omega) (by rw [Nat.add_zero, g0]; omega)
  rw [Nat.add_zero, g0, nI_0] at key
  refine wX11_holds d _ σ Q ⟨vp_in_nI (by omega) (by omega), ?_⟩
  rintro _ rfl
  rw [nI_clamp (by omega), es, a4, eb2, show (1000 : Int32) = nI 1000 from rfl, pk_mul, nI_add]
  exact key
