/-! the reference: nearer -/
theorem rA.c {w : WD} {κ l f : Nat} (h : rA w κ l f) : oI (wwy w (l / 61) (wft w f)) = nI (rc w l f) := by
  obtain ⟨-, x, e, -⟩ := h
  unfold rc
  rw [e]
  rfl
abbrev ZS := (Nat → Nat) × (Nat → Nat) × (Nat → Nat) × (Nat → Option Nat)
def RG (σ : HS) (nS nF : Nat) (X lf op : Nat → Nat) (cw : Int32 × Int32) : Prop := (∀ l, l < nS → σ.1 42 0 l = nI (lf l) ∧ lf l ≤ 100000) ∧ (∀ f, f < nF → σ.1 44 0 f = nI (op f) ∧ op f ≤ 10000) ∧ (∀ l f, l < nS → f < nF → σ.1 43 0 (10 * l + f) = nI (X (10 * l + f)) ∧ X (10 * l + f) ≤ 10000) ∧ σ.1 0 0 56 = cw.1 ∧ σ.1 0 0 57 = cw.2
def RLb (σ : HS) (nS nF : Nat) (z : ZS) : Prop := (∀ l, l < nS → σ.1 45 0 l = nI (z.1 l) ∧ σ.1 47 0 l = oI (z.2.2.2 l)) ∧ ∀ f, f < nF → σ.1 46 0 f = nI (z.2.1 f) ∧ (z.2.1 f < 100000000 → σ.1 48 0 f = nI (z.2.2.1 f))
theorem RG.upk {σ : HS} {nS nF k i s : Nat} {X lf op : Nat → Nat} {cw : Int32 × Int32} {x : Int32} (h : RG σ nS nF X lf op cw) (h1 : (42 : Nat) ≠ k) (h2 : (44 : Nat) ≠ k) (h3 : (43 : Nat) ≠ k) (h4 : (0 : Nat) ≠ k) : RG (up σ k i s x) nS nF X lf op cw := by
  refine ⟨fun l hl => ?_, fun f hf => ?_, fun l f hl hf => ?_, ?_⟩
  · rw [up_ne h1]; exact h.1 l hl
  · rw [up_ne h2]; exact h.2.1 f hf
  · rw [up_ne h3]; exact h.2.2.1 l f hl hf
  · rw [up_ne h4]; exact h.2.2.2
theorem RLb.uf {σ : HS} {nS nF f v j : Nat} {D E pl : Nat → Nat} {pf : Nat → Option Nat} (h : RLb σ nS nF (D, E, pl, pf)) : RLb (up (up σ 46 0 f (nI v)) 48 0 f (nI j)) nS nF (D, uF E f v, uF pl f j, pf) := by
  refine ⟨fun l hl => ?_, fun f2 hf => ?_⟩
  · rw [up_ne (show (45 : Nat) ≠ 48 by decide), up_ne (show (45 : Nat) ≠ 46 by decide), up_ne (show (47 : Nat) ≠ 48 by decide), up_ne (show (47 : Nat) ≠ 46 by decide)]
    exact h.1 l hl
  · rw [up_ne (show (46 : Nat) ≠ 48 by decide)]
    by_cases z : f2 = f
    · subst z
      rw [up_same, up_same]
      dsimp only
      rw [uF_s, uF_s]
      exact ⟨rfl, fun _ => rfl⟩
    · rw [up_f z, up_f z, up_ne (show (48 : Nat) ≠ 46 by decide)]
      dsimp only
      rw [uF_n z, uF_n z]
      exact h.2 f2 hf
theorem RLb.ul {σ : HS} {nS nF l v f : Nat} {D E pl : Nat → Nat} {pf : Nat → Option Nat} (h : RLb σ nS nF (D, E, pl, pf)) : RLb (up (up σ 45 0 l (nI v)) 47 0 l (nI f)) nS nF (uF D l v, E, pl, uF pf l (some f)) := by
  refine ⟨fun l2 hl => ?_, fun f2 hf => ?_⟩
  · rw [up_ne (show (45 : Nat) ≠ 47 by decide)]
    by_cases z : l2 = l
    · subst z
      rw [up_same, up_same]
      dsimp only
      rw [uF_s, uF_s]
      exact ⟨rfl, rfl⟩
    · rw [up_f z, up_f z, up_ne (show (47 : Nat) ≠ 45 by decide)]
      dsimp only
      rw [uF_n z, uF_n z]
      exact h.1 l2 hl
  · rw [up_ne (show (46 : Nat) ≠ 47 by decide), up_ne (show (46 : Nat) ≠ 45 by decide), up_ne (show (48 : Nat) ≠ 47 by decide), up_ne (show (48 : Nat) ≠ 45 by decide)]
    exact h.2 f2 hf
def phi (nS nF : Nat) (z : ZS) : Nat := sm z.1 nS + sm z.2.1 nF
theorem sm_dn {f : Nat → Nat} {i v n : Nat} (hi : i < n) (hv : v < f i) : sm (uF f i v) n < sm f n := by
  refine sm_lt (i := i) hi (fun k _ => ?_) (by rw [uF_s]; exact hv)
  by_cases z : k = i
  · rw [z, uF_s]; omega
  · rw [uF_n z]; exact Nat.le_refl _
/-- the reference's labels -/
def RZ (G : HS) (w : WD) (κ : Nat) (X lf op p q : Nat → Nat) (cw : Int32 × Int32) (σ : HS) (z : ZS) : Prop := Sim G σ ∧ RG σ (61 * wn w) (wf w) X lf op cw ∧ RLb σ (61 * wn w) (wf w) z ∧ ∃ tD tE B, BI (61 * wn w) (wf w) 100000000 0 (rA w κ) (rc w) X lf p q z.1 z.2.1 z.2.2.1 z.2.2.2 tD tE B
def RLE (w : WD) (z z2 : ZS) (fl fl2 : Nat) : Prop := (z2 = z ∧ fl2 = fl) ∨ (fl2 = 1 ∧ phi (61 * wn w) (wf w) z2 < phi (61 * wn w) (wf w) z)
theorem RLE.rf {w : WD} {z : ZS} {fl : Nat} : RLE w z z fl fl := Or.inl ⟨rfl, rfl⟩
theorem RLE.tr {w : WD} {z z2 z3 : ZS} {a b e : Nat} (h : RLE w z z2 a b) (k : RLE w z2 z3 b e) : RLE w z z3 a e := by
  rcases h with ⟨rfl, rfl⟩ | ⟨h1, h2⟩
  · exact k
  · rcases k with ⟨rfl, rfl⟩ | ⟨k1, k2⟩
    · exact Or.inr ⟨h1, h2⟩
    · exact Or.inr ⟨k1, by omega⟩
section
variable {G : HS} {w : WD} {κ T : Nat} {X lf op p q : Nat → Nat} {cw : Int32 × Int32}
theorem lt61 {n : Nat} (hn : n ≤ 8) : (61 : Int32) * nI n = nI (61 * n) := by
  rw [show (61 : Int32) = nI 61 from rfl, pk_mul]
theorem near1 (d : Nat) (Q : Option AV → HS → Prop) (hd : 2 ≤ d) (hW : WO G w) (pv : PV (61 * wn w) (wf w) (rA w κ) (rc w) X lf op p q T) {f : Nat} (hf : f < wf w) (hk : wfk w f = κ) :
    ∀ m j, j + m = 61 * wn w → ∀ σ z fl, RZ G w κ X lf op p q cw σ z → (∀ l, l < j → rA w κ l f → z.2.1 f ≤ z.1 l + rc w l f) →
      (∀ σ2 z2 fl2, RZ G w κ X lf op p q cw σ2 z2 → RLE w z z2 fl fl2 → (∀ l, l < 61 * wn w → rA w κ l f → z2.2.1 f ≤ z2.1 l + rc w l f) → atX11_nearer_97 d Q σ2 (nI f) (nI fl2) 0) → atX11_nearer_4 d Q σ (nI f) (nI fl) (nI j) := by
  have h1 := hW.1.1
  have h2 := hW.1.2.2.1
  intro m
  induction m with
  | zero =>
    intro j hj σ z fl hz rl k
    refine wX11_nearer_4 d Q σ _ _ _ (by omega) ?_
    rw [hz.1 0 0 7 rfl, hW.1.2.2.2.1.1, lt61 h1]
    exact ⟨fun _ => k σ z fl hz RLE.rf (fun l hl => rl l (by omega)), fun y => absurd (nI_le (by omega) (by omega)) y⟩
  | succ m ih =>
    intro j hj σ z fl hz rl k
    obtain ⟨D, E, pl, pf⟩ := z
    obtain ⟨hs, hg, hl, tD, tE, B, hb⟩ := id hz
    have hb1 := hb.1 j (by omega)
    have hb2 := hb.2 f hf
    dsimp only at hb1 hb2 rl
    have vx : vp_in (nI j) 488 := vp_in_nI (by omega) (by omega)
    have vf : vp_in (nI f) 10 := vp_in_nI (by omega) (by omega)
    have nx : ∀ σ2 z2 fl2, RZ G w κ X lf op p q cw σ2 z2 → RLE w (D, E, pl, pf) z2 fl fl2 → (∀ l, l < j + 1 → rA w κ l f → z2.2.1 f ≤ z2.1 l + rc w l f) → atX11_nearer_4 d Q σ2 (nI f) (nI fl2) (nI (j + 1)) := fun σ2 z2 fl2 a b e => ih (j + 1) (by omega) σ2 z2 fl2 a e (fun σ3 z3 fl3 a3 b3 e3 => k σ3 z3 fl3 a3 (b.tr b3) e3)
    have skip : (rA w κ j f → E f ≤ D j + rc w j f) → atX11_nearer_4 d Q σ (nI f) (nI fl) (nI (j + 1)) := fun e => nx σ (D, E, pl, pf) fl hz RLE.rf (fun l hl => by
      by_cases y : l = j
      · subst y; exact e
      · exact rl l (by omega))
    refine wX11_nearer_4 d Q σ _ _ _ (by omega) ?_
    rw [hs 0 0 7 rfl, hW.1.2.2.2.1.1, lt61 h1, nI_clamp (show j < 2 ^ 31 by omega), (hl.1 j (by omega)).1]
    refine ⟨fun y => absurd y (nI_ge (by omega) (by omega)), fun _ => ⟨vx, pk_le 100000000 (D j) (fun y => ?_) (fun y => ?_)⟩⟩
    · rintro _ rfl
      rw [nI_1]
      exact skip (fun _ => by omega)
    · refine canGo_ok (d - 1) σ _ (by omega) hW hs (by omega) hf hk (fun ra => ⟨_, rfl, fun y => absurd y (by decide), fun _ => ⟨vx, ?_⟩⟩) (fun ra => ⟨_, rfl, fun _ => ?_, fun y => absurd rfl y⟩)
      · have c200 := rc_le hW (l := j) (f := f) (by omega) hf
        refine daysOf_ok (d - 1) σ _ hW hs (by omega) hf ⟨_, rfl, vf, ?_⟩
        rw [ra.c, (hl.1 j (by omega)).1, nI_clamp (show f < 2 ^ 31 by omega), (hl.2 f hf).1, nI_add]
        refine pk_lt (D j + rc w j f) (E f) (fun y => ⟨vx, daysOf_ok (d - 1) σ _ hW hs (by omega) hf ⟨_, rfl, vf, ?_⟩⟩) (fun y => ?_)
        · rintro _ rfl
          refine ⟨vf, ?_⟩
          rintro _ rfl _ rfl
          rw [nI_1, ra.c, nI_add]
          refine nx _ (D, uF E f (D j + rc w j f), uF pl f j, pf) 1 ⟨(hs.up rfl).up rfl, (hg.upk (by decide) (by decide) (by decide) (by decide)).upk (by decide) (by decide) (by decide) (by decide), hl.uf, tD, _, _, hb.rf pv (by omega) hf ra y⟩ (Or.inr ⟨rfl, ?_⟩) (fun l hl2 ra2 => ?_)
          · show sm D _ + sm (uF E f (D j + rc w j f)) _ < sm D _ + sm E _
            have := sm_dn (f := E) hf y
            omega
          · show uF E f (D j + rc w j f) f ≤ D l + rc w l f
            rw [uF_s]
            by_cases z2 : l = j
            · subst z2; exact Nat.le_refl _
            · have := rl l (by omega) ra2
              omega
        · rintro _ rfl
          rw [nI_1]
          exact skip (fun _ => y)
      · rintro _ rfl
        rw [nI_1]
        exact skip (fun y => absurd y ra)
/-- all is near at feast f -/
def RXf (w : WD) (κ : Nat) (X : Nat → Nat) (z : ZS) (f : Nat) : Prop := (∀ l, l < 61 * wn w → rA w κ l f → z.2.1 f ≤ z.1 l + rc w l f) ∧ ∀ l, l < 61 * wn w → 0 < X (10 * l + f) → z.1 l + rc w l f ≤ z.2.1 f
theorem near2 (d : Nat) (Q : Option AV → HS → Prop) (hd : 2 ≤ d) (hW : WO G w) (pv : PV (61 * wn w) (wf w) (rA w κ) (rc w) X lf op p q T) {f : Nat} (hf : f < wf w) (hk : wfk w f = κ) :
    ∀ m j, j + m = 61 * wn w → ∀ σ z fl, fl ≤ 1 → RZ G w κ X lf op p q cw σ z → (∀ l, l < 61 * wn w → rA w κ l f → z.2.1 f ≤ z.1 l + rc w l f) → (∀ l, l < j → 0 < X (10 * l + f) → z.1 l + rc w l f ≤ z.2.1 f) →
      (∀ σ2 z2 fl2, fl2 ≤ 1 → RZ G w κ X lf op p q cw σ2 z2 → RLE w z z2 fl fl2 → RXf w κ X z2 f → Q (some (vI (nI fl2))) σ2) → atX11_nearer_97 d Q σ (nI f) (nI fl) (nI j) := by
  have h1 := hW.1.1
  have h2 := hW.1.2.2.1
  intro m
  induction m with
  | zero =>
    intro j hj σ z fl hfl hz ra rl k
    refine wX11_nearer_97 d Q σ _ _ _ (by omega) ?_
    rw [hz.1 0 0 7 rfl, hW.1.2.2.2.1.1, lt61 h1]
    refine ⟨fun _ => ⟨?_, k σ z fl hfl hz RLE.rf ⟨ra, fun l hl => rl l (by omega)⟩⟩, fun y => absurd (nI_le (by omega) (by omega)) y⟩
    have : fl = 0 ∨ fl = 1 := by omega
    rcases this with rfl | rfl
    · exact nb_0.1
    · exact nb_1.1
  | succ m ih =>
    intro j hj σ z fl hfl hz ra rl k
    obtain ⟨D, E, pl, pf⟩ := z
    obtain ⟨hs, hg, hl, tD, tE, B, hb⟩ := id hz
    have hb1 := hb.1 j (by omega)
    have hb2 := hb.2 f hf
    have hx := hg.2.2.1 j f (by omega) hf
    dsimp only at hb1 hb2 rl ra
    have vx : vp_in (nI j) 488 := vp_in_nI (by omega) (by omega)
    have vf : vp_in (nI f) 10 := vp_in_nI (by omega) (by omega)
    have ej : (10 : Int32) * nI j + nI f = nI (10 * j + f) := by rw [show (10 : Int32) = nI 10 from rfl, pk_mul, nI_add]
    have nx : ∀ σ2 z2 fl2, fl2 ≤ 1 → RZ G w κ X lf op p q cw σ2 z2 → RLE w (D, E, pl, pf) z2 fl fl2 → (∀ l, l < 61 * wn w → rA w κ l f → z2.2.1 f ≤ z2.1 l + rc w l f) → (∀ l, l < j + 1 → 0 < X (10 * l + f) → z2.1 l + rc w l f ≤ z2.2.1 f) → atX11_nearer_97 d Q σ2 (nI f) (nI fl2) (nI (j + 1)) := fun σ2 z2 fl2 h a b e e2 => ih (j + 1) (by omega) σ2 z2 fl2 h a e e2 (fun σ3 z3 fl3 h3 a3 b3 e3 => k σ3 z3 fl3 h3 a3 (b.tr b3) e3)
    have skip : (0 < X (10 * j + f) → D j + rc w j f ≤ E f) → atX11_nearer_97 d Q σ (nI f) (nI fl) (nI (j + 1)) := fun e => nx σ (D, E, pl, pf) fl hfl hz RLE.rf ra (fun l hl => by
      by_cases y : l = j
      · subst y; exact e
      · exact rl l (by omega))
    refine wX11_nearer_97 d Q σ _ _ _ (by omega) ?_
    rw [hs 0 0 7 rfl, hW.1.2.2.2.1.1, lt61 h1, ej, nI_clamp (show 10 * j + f < 2 ^ 31 by omega), hx.1]
    refine ⟨fun y => absurd y (nI_ge (by omega) (by omega)), fun _ => ⟨vp_in_nI (by omega) (by omega), pk_eq (X (10 * j + f)) 0 (fun y => ?_) (fun y => ⟨vf, ?_⟩)⟩⟩
    · rintro _ rfl
      rw [nI_1]
      exact skip (fun z => by omega)
    · have xp : 0 < X (10 * j + f) := by omega
      obtain ⟨ra2, qe⟩ := pv.2.1 j f (by omega) hf xp
      have c200 := rc_le hW (l := j) (f := f) (by omega) hf
      refine daysOf_ok (d - 1) σ _ hW hs (by omega) hf ⟨_, rfl, vx, ?_⟩
      rw [ra2.c, nI_clamp (show f < 2 ^ 31 by omega), nI_clamp (show j < 2 ^ 31 by omega), (hl.2 f hf).1, (hl.1 j (by omega)).1]
      dsimp only
      rw [pk_sub (by omega)]
      refine pk_lt (E f - rc w j f) (D j) (fun y => ⟨vf, daysOf_ok (d - 1) σ _ hW hs (by omega) hf ⟨_, rfl, vx, ?_⟩⟩) (fun y => ?_)
      · rintro _ rfl
        refine ⟨vx, ?_⟩
        rintro _ rfl _ rfl
        rw [nI_1, ra2.c, pk_sub (by omega)]
        refine nx _ (uF D j (E f - rc w j f), E, pl, uF pf j (some f)) 1 (Nat.le_refl _) ⟨(hs.up rfl).up rfl, (hg.upk (by decide) (by decide) (by decide) (by decide)).upk (by decide) (by decide) (by decide) (by decide), hl.ul, _, tE, _, hb.rl pv (by omega) hf xp (show E f < D j + rc w j f by omega) (fun z => absurd z (by decide))⟩ (Or.inr ⟨rfl, ?_⟩) (fun l hl2 ra3 => ?_) (fun l hl2 xp2 => ?_)
        · show sm (uF D j (E f - rc w j f)) _ + sm E _ < sm D _ + sm E _
          have := sm_dn (f := D) (i := j) (n := 61 * wn w) (by omega) y
          omega
        · show E f ≤ uF D j (E f - rc w j f) l + rc w l f
          by_cases z2 : l = j
          · subst z2
            rw [uF_s]
            omega
          · rw [uF_n z2]
            exact ra l hl2 ra3
        · show uF D j (E f - rc w j f) l + rc w l f ≤ E f
          by_cases z2 : l = j
          · subst z2
            rw [uF_s]
            omega
          · rw [uF_n z2]
            exact rl l (by omega) xp2
      · rintro _ rfl
        rw [nI_1]
        exact skip (fun _ => by omega)
theorem near_ok (d : Nat) (σ : HS) (z : ZS) (Q : Option AV → HS → Prop) (hd : 2 ≤ d) (hW : WO G w) (pv : PV (61 * wn w) (wf w) (rA w κ) (rc w) X lf op p q T) {f : Nat} (hf : f < wf w) (hk : wfk w f = κ) (hz : RZ G w κ X lf op p q cw σ z) (k : ∀ σ2 z2 fl2, fl2 ≤ 1 → RZ G w κ X lf op p q cw σ2 z2 → RLE w z z2 0 fl2 → RXf w κ X z2 f → Q (some (vI (nI fl2))) σ2) : MT d mX11_nearer [vR 0 0, vI (nI f)] σ Q := by
  refine wX11_nearer d _ σ Q (near1 d Q hd hW pv hf hk (61 * wn w) 0 (by omega) σ z 0 hz (fun l hl => absurd hl (Nat.not_lt_zero l)) (fun σ2 z2 fl2 a b e => ?_))
  have h2 : fl2 ≤ 1 := by
    rcases b with ⟨-, y⟩ | ⟨y, -⟩ <;> omega
  exact near2 d Q hd hW pv hf hk (61 * wn w) 0 (by omega) σ2 z2 fl2 h2 a e (fun l hl => absurd hl (Nat.not_lt_zero l)) (fun σ3 z3 fl3 h3 a3 b3 e3 => k σ3 z3 fl3 h3 a3 (b.tr b3) e3)
end
