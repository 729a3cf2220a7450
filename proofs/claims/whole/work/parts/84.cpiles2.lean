/-! the class: gatherPiles -/
section
variable {G : HS} {w : WD} {κ nE : Nat} {a : FA} {cw : Int32 × Int32}
/-- what stands while piles are gathered -/
def GS (G : HS) (w : WD) (κ nE : Nat) (a : FA) (cw : Int32 × Int32) (σ : HS) (t a1 nP : Nat) (g : Nat → Nat) (b : PB) : Prop := Sim G σ ∧ KC σ cw ∧ KF σ nE a ∧ KPl σ nP b ∧ GP w κ nE a.2.2.1 t a1 nP g b
theorem p98_ok (d : Nat) (Q : Option AV → HS → Prop) (hW : WO G w) (hκ : κ < 3) (hn : nE ≤ 10) (σ : HS) (t x sb nP s7 : Nat) (g : Nat → Nat) (b : PB) (ht : t < wn w) (hx : x < 61) (h : GS G w κ nE a cw σ t (x + 1) nP g b) (tp : TP nE a.2.2.1 t (x + 1) nP sb b) (h7 : (s7 = 0 ∧ (0 < rs w κ (61 * t + x) → ∀ e, e < nE → ¬ x ≤ a.2.2.1 e)) ∨ (s7 = sv a.2.2.1 nE x ∧ 0 < s7 ∧ s7 ≠ sb)) (hs7 : s7 ≤ 10)
    (k : ∀ σ2 sb2 nP2 g2 b2, GS G w κ nE a cw σ2 t x nP2 g2 b2 → TP nE a.2.2.1 t x nP2 sb2 b2 → atX6_gatherPiles_29 d Q σ2 (nI κ) (nI t) (nI sb2) (ag x)) : atX6_gatherPiles_98 d Q σ (nI κ) (nI t) (nI sb) (nI x) (nI (rs w κ (61 * t + x))) (nI s7) := by
  have h1 := hW.1.1
  obtain ⟨hs, hc, hf, hp, hg⟩ := h
  have n80 := hg.1
  obtain ⟨tp1, tp2, tp3⟩ := tp
  refine wX6_gatherPiles_98 d Q σ _ _ _ _ _ _ (pk_le s7 0 (fun y => ?_) (fun y => ?_))
  · rintro _ rfl
    rw [ag_m]
    rcases h7 with ⟨-, no⟩ | ⟨-, y2, -⟩
    · refine k σ sb nP g b ⟨hs, hc, hf, hp, hg.skip ht hx no⟩ ⟨tp1, tp2, fun z => ?_⟩
      obtain ⟨q1, q2, q3, q4⟩ := tp3 z
      exact ⟨q1, q2, by omega, q4⟩
    · omega
  · obtain ⟨e7, -, ne⟩ : s7 = sv a.2.2.1 nE x ∧ 0 < s7 ∧ s7 ≠ sb := by
      rcases h7 with ⟨y2, -⟩ | y2
      · omega
      · exact y2
    have lt : sb < s7 := by
      by_cases z : 0 < sb
      · obtain ⟨q1, q2, q3, q4⟩ := tp3 z
        have := sv_mono a.2.2.1 nE (show x ≤ b.2.1 (nP - 1) by omega)
        omega
      · omega
    have sl := sv_le a.2.2.1 nE x
    have n8 : nP < 80 := by omega
    have vn : vp_in (nI nP) 80 := vp_in_nI n8 (by omega)
    rw [hp.1]
    refine ⟨fun z => absurd z (nI_ge (a := nP) (b := 80) n8 (by omega)), fun _ => ⟨vn, ?_⟩⟩
    rintro _ rfl
    rw [up_ne (show (10 : Nat) ≠ 91 by decide), hp.1, nI_clamp (show nP < 2 ^ 31 by omega)]
    refine ⟨vn, ?_⟩
    rintro _ rfl
    rw [up_ne (show (10 : Nat) ≠ 92 by decide), up_ne (show (10 : Nat) ≠ 91 by decide), hp.1, nI_clamp (show nP < 2 ^ 31 by omega)]
    refine ⟨vn, ?_⟩
    rintro _ rfl _ rfl _ rfl
    rw [up_ne (show (10 : Nat) ≠ 93 by decide), up_ne (show (10 : Nat) ≠ 92 by decide), up_ne (show (10 : Nat) ≠ 91 by decide), hp.1, nI_1, ag_m]
    refine k _ s7 (nP + 1) _ _ ⟨(((hs.up rfl).up rfl).up rfl).up rfl, (((hc.pl (KFP.upk (Or.inl (Or.inl rfl)))).pl (KFP.upk (Or.inl (Or.inr (Or.inl rfl))))).pl (KFP.upk (Or.inl (Or.inr (Or.inr rfl))))).pl (KFP.upk (Or.inr ⟨rfl, rfl⟩)), (((hf.pl (KFP.upk (Or.inl (Or.inl rfl)))).pl (KFP.upk (Or.inl (Or.inr (Or.inl rfl))))).pl (KFP.upk (Or.inl (Or.inr (Or.inr rfl))))).pl (KFP.upk (Or.inr ⟨rfl, rfl⟩)), ⟨up_same, fun P hP => ?_⟩, hg.new ht hx n8⟩ ⟨by omega, by omega, fun _ => ?_⟩
    · dsimp only
      rw [up_ne (show (91 : Nat) ≠ 10 by decide), up_ne (show (91 : Nat) ≠ 93 by decide), up_ne (show (91 : Nat) ≠ 92 by decide), up_ne (show (92 : Nat) ≠ 10 by decide), up_ne (show (92 : Nat) ≠ 93 by decide), up_ne (show (93 : Nat) ≠ 10 by decide)]
      by_cases z : P = nP
      · subst z
        rw [up_same, up_same, up_same, uF_s, uF_s, uF_s]
        exact ⟨rfl, rfl, rfl⟩
      · rw [up_f z, up_f z, up_f z, uF_n z, uF_n z, uF_n z, up_ne (show (92 : Nat) ≠ 91 by decide), up_ne (show (93 : Nat) ≠ 92 by decide), up_ne (show (93 : Nat) ≠ 91 by decide)]
        exact hp.2 P (by omega)
    · dsimp only
      rw [show nP + 1 - 1 = nP by omega, uF_s, uF_s]
      exact ⟨by omega, rfl, Nat.le_refl _, e7.symm⟩
theorem p65_ok (d : Nat) (Q : Option AV → HS → Prop) (hW : WO G w) (hκ : κ < 3) (hn : nE ≤ 10) (σ : HS) (t x sb nP s7 : Nat) (g : Nat → Nat) (b : PB) (ht : t < wn w) (hx : x < 61) (h : GS G w κ nE a cw σ t (x + 1) nP g b) (tp : TP nE a.2.2.1 t (x + 1) nP sb b) (h7 : (s7 = 0 ∧ (0 < rs w κ (61 * t + x) → ∀ e, e < nE → ¬ x ≤ a.2.2.1 e)) ∨ (s7 = sv a.2.2.1 nE x ∧ 0 < s7)) (hs7 : s7 ≤ 10)
    (k : ∀ σ2 sb2 nP2 g2 b2, GS G w κ nE a cw σ2 t x nP2 g2 b2 → TP nE a.2.2.1 t x nP2 sb2 b2 → atX6_gatherPiles_29 d Q σ2 (nI κ) (nI t) (nI sb2) (ag x)) : atX6_gatherPiles_65 d Q σ (nI κ) (nI t) (nI sb) (nI x) (nI (rs w κ (61 * t + x))) (nI s7) := by
  have sb10 : sb ≤ 10 := by have := tp.1; omega
  have go := p98_ok d Q hW hκ hn σ t x sb nP s7 g b ht hx h tp
  refine wX6_gatherPiles_65 d Q σ _ _ _ _ _ _ (pk_le s7 0 (fun y => go (Or.inl ?_) hs7 k) (fun y => And.symm (pk_eq s7 sb (fun e => ?_) (fun e => go (Or.inr ?_) hs7 k))))
  · rcases h7 with z | z
    · exact z
    · omega
  · obtain ⟨hs, hc, hf, hp, hg⟩ := h
    have n80 := hg.1
    obtain ⟨tp1, tp2, tp3⟩ := tp
    obtain ⟨q1, q2, q3, q4⟩ := tp3 (by omega)
    have e7 : s7 = sv a.2.2.1 nE x := by
      rcases h7 with z | z
      · omega
      · exact z.1
    have ep : nI nP - 1 = nI (nP - 1) := pk_sub (a := nP) (b := 1) (by omega)
    have vn : vp_in (nI (nP - 1)) 80 := vp_in_nI (by omega) (by omega)
    rw [hp.1, ep, nI_clamp (show nP - 1 < 2 ^ 31 by omega), (hp.2 (nP - 1) (by omega)).2.2, nI_add]
    refine ⟨vn, vn, ?_⟩
    rintro _ rfl _ rfl
    rw [ag_m]
    refine k _ sb nP _ _ ⟨hs.up rfl, hc.pl (KFP.upk (Or.inl (Or.inr (Or.inr rfl)))), hf.pl (KFP.upk (Or.inl (Or.inr (Or.inr rfl)))), ⟨?_, fun P hP => ?_⟩, hg.add ht hx q1 q2 (fun e he => sv_eq (by omega) (by omega) he)⟩ ⟨tp1, tp2, fun z => ⟨q1, q2, by dsimp only; omega, q4⟩⟩
    · rw [up_ne (by decide)]; exact hp.1
    · rw [up_ne (show (91 : Nat) ≠ 93 by decide), up_ne (show (92 : Nat) ≠ 93 by decide)]
      dsimp only
      obtain ⟨r1, r2, r3⟩ := hp.2 P hP
      refine ⟨r1, r2, ?_⟩
      by_cases z : P = nP - 1
      · rw [z, up_same, uF_s]
      · rw [up_f z, uF_n z]; exact r3
  · rcases h7 with z | z
    · omega
    · exact ⟨z.1, z.2, e⟩
theorem p29_ok (d : Nat) (Q : Option AV → HS → Prop) (hd : 1 ≤ d) (hW : WO G w) (hκ : κ < 3) (hn : nE ≤ 10) (ho : ∀ e, e < nE → a.2.2.1 e ≤ 60) (t : Nat) (ht : t < wn w) (k : ∀ σ2 nP2 g2 b2 sb2, GS G w κ nE a cw σ2 t 0 nP2 g2 b2 → TP nE a.2.2.1 t 0 nP2 sb2 b2 → atX6_gatherPiles_7 d Q σ2 (nI κ) (nI (t + 1))) :
    ∀ a1, a1 ≤ 61 → ∀ σ sb nP g b, GS G w κ nE a cw σ t a1 nP g b → TP nE a.2.2.1 t a1 nP sb b → atX6_gatherPiles_29 d Q σ (nI κ) (nI t) (nI sb) (ag a1) := by
  have h1 := hW.1.1
  intro a1
  induction a1 with
  | zero =>
    intro _ σ sb nP g b h tp
    refine wX6_gatherPiles_29 d Q σ _ _ _ _ hd ⟨fun _ => ?_, fun y => absurd (by decide) y⟩
    rintro _ rfl
    rw [nI_1]
    exact k σ nP g b sb h tp
  | succ x ih =>
    intro hx σ sb nP g b h tp
    have hs := h.1
    have er : rs w κ (61 * t + x) = wls w (61 * (3 * t + κ) + x) := by
      unfold rs
      rw [show (61 * t + x) / 61 = t by omega, show (61 * t + x) % 61 = x by omega, show (t * 3 + κ) * 61 + x = 61 * (3 * t + κ) + x by omega]
    have lo := (hW.2.2.2.2.1 (61 * (3 * t + κ) + x) (by omega)).2
    have cell : σ.1 65 (3 * t + κ) x = nI (rs w κ (61 * t + x)) := by
      rw [hs 65 _ _ rfl, hW.2.2.2.2.2 (3 * t + κ) x (by omega) (by omega), er]
    rw [← er] at lo
    refine wX6_gatherPiles_29 d Q σ _ _ _ _ hd ?_
    rw [ag_s, nI_clamp (show t < 2 ^ 31 by omega), nI_clamp (show κ < 2 ^ 31 by omega), nI_clamp (show x < 2 ^ 31 by omega), cell]
    refine ⟨fun y => absurd y (nI_pos (by omega)), fun _ => ⟨vp_in_nI (by omega) (by omega), vp_in_nI hκ (by omega), vp_in_nI (by omega) (by omega), ?_⟩⟩
    rintro _ rfl
    have nx : ∀ σ2 sb2 nP2 g2 b2, GS G w κ nE a cw σ2 t x nP2 g2 b2 → TP nE a.2.2.1 t x nP2 sb2 b2 → atX6_gatherPiles_29 d Q σ2 (nI κ) (nI t) (nI sb2) (ag x) := fun σ2 sb2 nP2 g2 b2 a2 t2 => ih (by omega) σ2 sb2 nP2 g2 b2 a2 t2
    refine pk_le (rs w κ (61 * t + x)) 0 (fun y => ?_) (fun y => ?_)
    · exact p65_ok d Q hW hκ hn σ t x sb nP 0 g b ht (by omega) h tp (Or.inl ⟨rfl, fun z => by omega⟩) (by omega) nx
    · refine served_ok (d - 1) x σ _ hn (by omega) h.2.2.1 ho ⟨_, rfl, ?_⟩
      have sl := sv_le a.2.2.1 nE x
      refine p65_ok d Q hW hκ hn σ t x sb nP _ g b ht (by omega) h tp ?_ (by omega) nx
      by_cases z : sv a.2.2.1 nE x = 0
      · exact Or.inl ⟨z, fun _ e he => sv_no z he⟩
      · exact Or.inr ⟨rfl, by omega⟩
theorem gpile_ok (d : Nat) (σ : HS) (Q : Option AV → HS → Prop) (hd : 1 ≤ d) (hW : WO G w) (hκ : κ < 3) (hn : nE ≤ 10) (ho : ∀ e, e < nE → a.2.2.1 e ≤ 60) (hs : Sim G σ) (hc : KC σ cw) (hf : KF σ nE a) (k : ∀ σ2 nP g b, GS G w κ nE a cw σ2 (wn w) 61 nP g b → Q none σ2) : MT d mX6_gatherPiles [vR 10 0, vR 2 0, vI (nI κ)] σ Q := by
  have h1 := hW.1.1
  have key : ∀ m t, t + m = wn w → ∀ σ nP g b, nP ≤ 10 * t → GS G w κ nE a cw σ t 61 nP g b → atX6_gatherPiles_7 d Q σ (nI κ) (nI t) := by
    intro m
    induction m with
    | zero =>
      intro t ht σ nP g b hp h
      have e : t = wn w := by omega
      subst e
      refine wX6_gatherPiles_7 d Q σ _ _ ?_
      rw [h.1 2 0 3 rfl, hW.1.2.2.2.1.2]
      exact ⟨fun _ => k σ nP g b h, fun y => absurd (nI_le (Nat.le_refl _) (by omega)) y⟩
    | succ m ih =>
      intro t ht σ nP g b hp h
      refine wX6_gatherPiles_7 d Q σ _ _ ?_
      rw [h.1 2 0 3 rfl, hW.1.2.2.2.1.2, h.2.2.1.1]
      refine ⟨fun y => absurd y (nI_ge (by omega) (by omega)), fun _ => pk_le nE 0 (fun y => ?_) (fun y => ?_)⟩
      · refine k σ nP g b ⟨h.1, h.2.1, h.2.2.1, h.2.2.2.1, ?_⟩
        obtain ⟨g1, g2, g3, g4⟩ := h.2.2.2.2
        refine ⟨g1, fun l hl => ?_, g3, g4⟩
        rcases g2 l hl with ⟨a1, a2, a3⟩ | ⟨a1, a2⟩
        · exact Or.inl ⟨a1, by unfold dn; omega, a3⟩
        · exact Or.inr ⟨a1, fun _ _ e he => by omega⟩
      · refine p29_ok d Q hd hW hκ hn ho t (by omega) (fun σ2 nP2 g2 b2 sb2 s2 tp2 => ih (t + 1) (by omega) σ2 nP2 g2 b2 ?_ ⟨s2.1, s2.2.1, s2.2.2.1, s2.2.2.2.1, s2.2.2.2.2.town⟩) 61 (by omega) σ 0 nP g b h ⟨Nat.zero_le _, by omega, fun z => absurd z (Nat.lt_irrefl 0)⟩
        have := tp2.1
        have := tp2.2.1
        omega
  refine wX6_gatherPiles d _ σ Q ?_
  rintro _ rfl
  refine key (wn w) 0 (by omega) _ 0 (fun _ => 1000) ((fun _ => 0), (fun _ => 0), (fun _ => 0)) (by omega) ⟨hs.up rfl, hc.pl (KFP.upk (Or.inr ⟨rfl, rfl⟩)), hf.pl (KFP.upk (Or.inr ⟨rfl, rfl⟩)), ⟨up_same, fun P hP => absurd hP (Nat.not_lt_zero P)⟩, by omega, fun l hl => Or.inr ⟨rfl, fun y => ?_⟩, fun P hP => absurd hP (Nat.not_lt_zero P), fun P hP => absurd hP (Nat.not_lt_zero P)⟩
  unfold dn at y
  omega
end
