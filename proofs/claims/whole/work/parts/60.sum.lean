/-! sums -/
def RSL (c : CX) (i nt q : Nat) (G : Nat → GI) (j nt2 q2 : Nat) (G2 : Nat → GI) : Prop := ∀ d σ Q, 8 ≤ d → RS c σ i nt q G → (∀ σ2, RS c σ2 j nt2 q2 G2 → Fr (cT (crb c)) σ σ2 → Q none σ2) → atX11_readSum_4 d Q σ
def RSLF (c : CX) (i nt q : Nat) (G : Nat → GI) (j : Nat) : Prop := ∀ d σ Q, 8 ≤ d → RS c σ i nt q G → (∀ σ2, RF c σ2 j → Fr (cT (crb c)) σ σ2 → Q none σ2) → atX11_readSum_4 d Q σ
def RSum (c : CX) (i nt q : Nat) (G : Nat → GI) (j nt2 q2 : Nat) (G2 : Nat → GI) : Prop := ∀ d σ Q, 9 ≤ d → RS c σ i nt q G → (∀ σ2, RS c σ2 j nt2 q2 G2 → Fr (cT (crb c)) σ σ2 → Q none σ2) → MT d mX11_readSum [vR 0 0] σ Q
def RSumF (c : CX) (i nt q : Nat) (G : Nat → GI) (j : Nat) : Prop := ∀ d σ Q, 9 ≤ d → RS c σ i nt q G → (∀ σ2, RF c σ2 j → Fr (cT (crb c)) σ σ2 → Q none σ2) → MT d mX11_readSum [vR 0 0] σ Q
theorem RS.is {c : CX} {i nt q : Nat} {G : Nat → GI} (d w0 : Nat) (σ : HS) (Q : Option AV → HS → Prop) (hd : 1 ≤ d) (h : RS c σ i nt q G) (hc : 18 ≤ w0) (hc2 : w0 < 128) (h1 : tW c i = w0 → Q (some (vI 1)) σ) (h0 : tW c i ≠ w0 → Q (some (vI 0)) σ) : MT d mX11_is [vR 0 0, vI (nI w0)] σ Q :=
  is_ok d (cn c) w0 _ _ _ _ (cU c) σ Q hd h.2.1 h.rng.2.1 h.tk hc hc2 h1 h0
theorem RS.sign {c : CX} {i nt q : Nat} {G : Nat → GI} (d : Nat) (σ : HS) (Q : Option AV → HS → Prop) (h : RS c σ i nt q G) (hc : 18 ≤ tW c i) (k : Q (some (vI (nI (tW c i)))) σ) : MT d mX11_sign [vR 0 0, vI (σ.1 0 0 15)] σ Q := by
  have eU : cU c (tP c i) = tW c i := by
    rcases h.tk.2.2 with ⟨h1, h2⟩ | ⟨h1, h2⟩ | ⟨h1, h2, _⟩ | ⟨h1, h2, _⟩ | ⟨h1, h1', h2, _⟩ | ⟨h1, h2, h3⟩
    · omega
    · omega
    · omega
    · omega
    · omega
    · exact h3
  rw [h.tk.1]
  refine sign_ok d (cn c) _ (cU c) σ Q h.2.1 (by have := h.rng.2.1; omega) ?_
  rw [eU]
  exact k
theorem rsl_end {c : CX} {i nt q : Nat} {G : Nat → GI} (h1 : tW c i ≠ 43) (h2 : tW c i ≠ 45) : RSL c i nt q G i nt q G := by
  intro d σ Q hd h k
  have fin := k σ h Fr.rf
  refine wX11_readSum_4 d Q σ (by omega) ⟨fun y => absurd h.fk y, fun _ => ?_⟩
  refine h.is (d - 1) 43 σ _ (by omega) (by omega) (by omega) (fun z => absurd z h1) (fun _ => ⟨_, rfl, fun y => absurd rfl y, fun _ => ?_⟩)
  exact h.is (d - 1) 45 σ _ (by omega) (by omega) (by omega) (fun z => absurd z h2) (fun _ => ⟨_, rfl, fun _ => fin, fun y => absurd rfl y⟩)
theorem rsl_29 {c : CX} {i nt q w0 : Nat} {G : Nat → GI} (d : Nat) (σ : HS) (Q : Option AV → HS → Prop) (hd : 8 ≤ d) (hw : tW c i = w0) (hw0 : w0 = 43 ∨ w0 = 45) (h : RS c σ i nt q G) (k : atX11_readSum_29 d Q σ) : atX11_readSum_4 d Q σ := by
  refine wX11_readSum_4 d Q σ (by omega) ⟨fun y => absurd h.fk y, fun _ => ?_⟩
  refine h.is (d - 1) 43 σ _ (by omega) (by omega) (by omega) (fun z => ⟨_, rfl, fun _ => k, fun y => absurd y (by decide)⟩) (fun z => ⟨_, rfl, fun y => absurd rfl y, fun _ => ?_⟩)
  exact h.is (d - 1) 45 σ _ (by omega) (by omega) (by omega) (fun z => ⟨_, rfl, fun y => absurd y (by decide), fun _ => k⟩) (fun z => by omega)
theorem rsl_step {c : CX} {i nt q w0 j j2 nt2 q2 : Nat} {g : GI} {G G2 : Nat → GI} (hw : tW c i = w0) (hw0 : w0 = 43 ∨ w0 = 45) (ht : TmS c (i + 1) j g) (hn : nt < 80) (hq : q + 2 ≤ 900) (r : RSL c j (nt + 1) (q + 2) (uF (uF G q g) (q + 1) (w0, 0, 0)) j2 nt2 q2 G2) : RSL c i nt q G j2 nt2 q2 G2 := by
  intro d σ Q hd h k
  refine rsl_29 d σ Q hd hw hw0 h (wX11_readSum_29 d Q σ (by omega) (h.sign (d - 1) σ _ (by omega) ⟨_, rfl, ?_⟩))
  refine next_s (d - 1) σ _ (by omega) h (by omega) (fun σ2 a b => ⟨rfl, ?_⟩)
  refine term_rS (d - 1) σ2 _ (by omega) a (by omega) hn ht (fun σ3 a3 b3 => ⟨rfl, fun y => absurd a3.fk y, fun _ => ?_⟩)
  rw [hw]
  exact step_s (d - 1) (w0, 0, 0) 0 0 σ3 _ a3 (by omega) (fun _ => rfl) (fun _ => rfl) (fun σ4 a4 b4 => ⟨rfl, r d σ4 Q hd a4 (fun σ5 a5 b5 => k σ5 a5 (((b.NT.tr b3).tr b4).tr b5))⟩)
theorem rsl_fail {c : CX} {i nt q w0 j : Nat} {G : Nat → GI} (hw : tW c i = w0) (hw0 : w0 = 43 ∨ w0 = 45) (ht : TmF c (i + 1) nt j) (hq : q < 900) : RSLF c i nt q G j := by
  intro d σ Q hd h k
  refine rsl_29 d σ Q hd hw hw0 h (wX11_readSum_29 d Q σ (by omega) (h.sign (d - 1) σ _ (by omega) ⟨_, rfl, ?_⟩))
  refine next_s (d - 1) σ _ (by omega) h (by omega) (fun σ2 a b => ⟨rfl, ?_⟩)
  exact term_rF (d - 1) σ2 _ (by omega) a hq ht (fun σ3 a3 b3 => ⟨rfl, fun _ => wX11_readSum_4 d Q σ3 (by omega) ⟨fun _ => k σ3 a3 (b.NT.tr b3), fun y => absurd y a3.ne⟩, fun y => absurd y a3.ne⟩)
theorem rsl_stepF {c : CX} {i nt q w0 j j2 : Nat} {g : GI} {G : Nat → GI} (hw : tW c i = w0) (hw0 : w0 = 43 ∨ w0 = 45) (ht : TmS c (i + 1) j g) (hn : nt < 80) (hq : q + 2 ≤ 900) (r : RSLF c j (nt + 1) (q + 2) (uF (uF G q g) (q + 1) (w0, 0, 0)) j2) : RSLF c i nt q G j2 := by
  intro d σ Q hd h k
  refine rsl_29 d σ Q hd hw hw0 h (wX11_readSum_29 d Q σ (by omega) (h.sign (d - 1) σ _ (by omega) ⟨_, rfl, ?_⟩))
  refine next_s (d - 1) σ _ (by omega) h (by omega) (fun σ2 a b => ⟨rfl, ?_⟩)
  refine term_rS (d - 1) σ2 _ (by omega) a (by omega) hn ht (fun σ3 a3 b3 => ⟨rfl, fun y => absurd a3.fk y, fun _ => ?_⟩)
  rw [hw]
  exact step_s (d - 1) (w0, 0, 0) 0 0 σ3 _ a3 (by omega) (fun _ => rfl) (fun _ => rfl) (fun σ4 a4 b4 => ⟨rfl, r d σ4 Q hd a4 (fun σ5 a5 b5 => k σ5 a5 (((b.NT.tr b3).tr b4).tr b5))⟩)
theorem gOK_op {x : Nat} (h : x = 43 ∨ x = 45 ∨ x = 60 ∨ x = 61 ∨ x = 62 ∨ x = 38 ∨ x = 124 ∨ x = 126) : gOK (x, 0, 0) := by
  unfold gOK
  dsimp only
  omega
theorem TmS.leaf {c : CX} {i j : Nat} {g : GI} (a : TmS c i j g) : g.1 = 110 ∨ g.1 = 109 ∨ g.1 = 112 ∨ g.1 = 115 ∨ g.1 = 111 ∨ g.1 = 114 := by
  rcases a with ⟨_, _, a⟩ | ⟨_, _, a⟩ | ⟨_, _, _, a⟩ | ⟨_, _, _, a⟩ | ⟨_, _, _, _, a⟩ | ⟨_, _, _, _, a⟩ <;> rw [a] <;> simp
theorem HG_pair {G : Nat → GI} {q h w0 : Nat} {g : GI} (hg : g.1 = 110 ∨ g.1 = 109 ∨ g.1 = 112 ∨ g.1 = 115 ∨ g.1 = 111 ∨ g.1 = 114) (hw : w0 = 43 ∨ w0 = 45) (h1 : 1 ≤ h) (h2 : h < 32) : HG (uF (uF G q g) (q + 1) (w0, 0, 0)) q (q + 2) h h :=
  ((HG.one (mv_leaf hg h2)).ext (fun x _ b => uF_n (by omega))).tr (HG.one (mv_two (x := w0) (by omega) h1)) (by omega) (by omega)
theorem sum_loop {c : CX} (d : Nat) (Q : Option AV → HS → Prop) (hd : 4 ≤ d) : ∀ m more i nt q G σ, more + m = 80 → more + 1 ≤ nt → CS c σ i nt q G →
    (∀ j nt2 q2 G2 σ2, CS c σ2 j nt2 q2 G2 → Fr (cC (cdr c)) σ σ2 → Ex G q G2 → nt ≤ nt2 → q2 = q + 2 * (nt2 - nt) → (∀ h, 1 ≤ h → h < 32 → HG G2 q q2 h h) → RSL c i nt q G j nt2 q2 G2 → Q (some (vI 1)) σ2) →
    (∀ j σ2, CP c σ2 j → Fr (cC (cdr c)) σ σ2 → RSLF c i nt q G j → Q (some (vI 0)) σ2) → atX4_readSum_11 d Q σ (nI more) := by
  intro m
  induction m with
  | zero =>
    intro more i nt q G σ hm hn h
    have := h.2.1.2
    omega
  | succ m ih =>
    intro more i nt q G σ hm hn h hS hF
    have hnt := h.2.1.2
    have hq := h.2.2.1.2
    have hr := h.1.1.rng h.1.2.2.1
    refine wX4_readSum_11 d Q σ _ (by omega) ⟨fun z => absurd z (nI_ge (a := more) (b := 80) (by omega) (by omega)), fun _ => ?_⟩
    refine here_s (d - 1) σ _ h.1 ⟨_, rfl, ?_⟩
    have go : ∀ w0, (w0 = 43 ∨ w0 = 45) → tW c i = w0 → MT (d - 1) mX4_readTerm [vR 6 0] (upAt σ (i + 1)) (fun r σ_19 => ∃ r_21, r = some (vI r_21) ∧ ((¬ r_21 = 0 → ((σ_19.1 6 0 5).toNatClampNeg < 2 ∧ (MT (d - 1) mX5_addStep [vR 7 ((σ_19.1 6 0 5).toNatClampNeg), vI (nI (tW c i)), vI 0] σ_19 (fun r σ_27 => r = none ∧ (∀ x_29 : Int32, x_29 = nI more + 1 → atX4_readSum_11 d Q σ_27 x_29))))) ∧ (r_21 = 0 → Q (some (vI 0)) σ_19))) := by
      intro w0 hw0 hw
      have h1 := h.at (by omega)
      refine term_c (d - 1) _ _ (by omega) h1 (fun hn2 j g σ2 ts gk cs fr => ⟨_, rfl, fun _ => ?_, fun y => absurd y (by decide)⟩) (fun j σ2 tf cp fr => ⟨_, rfl, fun y => absurd rfl y, fun _ => ?_⟩)
      · rw [cs.1.dr, hw]
        refine ⟨cs.1.1.2.2.2, add_s (d - 1) w0 0 (w0, 0, 0) σ2 _ cs (by omega) (by omega) (by omega) (gOK_op (by omega)) (by rcases hw0 with rfl | rfl <;> rfl) (fun σ3 cs3 f3 => ⟨rfl, ?_⟩)⟩
        rintro _ rfl
        rw [nI_1]
        refine ih (more + 1) j (nt + 1) (q + 2) _ σ3 (by omega) (by omega) cs3 (fun j2 nt2 q2 G2 σ4 c4 f4 e4 l4 q4 g4 r4 => ?_) (fun j2 σ4 c4 f4 r4 => ?_)
        · refine hS j2 nt2 q2 G2 σ4 c4 (((upAt_fr (σ := σ) (i := i + 1)).tr fr).tr (f3.tr f4)) ((Ex.uF.tr Ex.uF (by omega)).tr e4 (by omega)) (by omega) (by omega) (fun hh a b => ?_) (rsl_step hw hw0 ts hn2 (by omega) r4)
          exact ((HG_pair ts.leaf hw0 a b).ext (fun x _ y => e4 x (by omega))).tr (g4 hh a b) (by omega) (by omega)
        · exact hF j2 σ4 c4 (((upAt_fr (σ := σ) (i := i + 1)).tr fr).tr (f3.tr f4)) (rsl_stepF hw hw0 ts hn2 (by omega) r4)
      · exact hF j σ2 cp ((upAt_fr (σ := σ) (i := i + 1)).tr fr) (rsl_fail hw hw0 tf (by omega))
    refine acc_s (d - 1) 43 _ _ h.1 (by omega) (fun w => ⟨_, rfl, fun _ => go 43 (by omega) w, fun y => absurd y (by decide)⟩) (fun w => ⟨_, rfl, fun y => absurd rfl y, fun _ => ?_⟩)
    refine acc_s (d - 1) 45 _ _ h.1 (by omega) (fun w => ⟨_, rfl, fun _ => go 45 (by omega) w, fun y => absurd y (by decide)⟩) (fun w2 => ⟨_, rfl, fun y => absurd rfl y, fun _ => ?_⟩)
    exact hS i nt q G σ h Fr.rf Ex.rf (Nat.le_refl _) (by omega) (fun _ _ _ => HG.rf) (rsl_end w w2)
def SumI (c : CX) (i nt q : Nat) (G : Nat → GI) (j nt2 q2 : Nat) (G2 : Nat → GI) : Prop := Ex G q G2 ∧ nt < nt2 ∧ q2 + 1 = q + 2 * (nt2 - nt) ∧ (∀ h, h < 31 → HG G2 q q2 h (h + 1)) ∧ RSum c i nt q G j nt2 q2 G2
theorem sum_c {c : CX} {i nt q : Nat} {G : Nat → GI} (d : Nat) (σ : HS) (Q : Option AV → HS → Prop) (hd : 5 ≤ d) (h : CS c σ i nt q G)
    (hS : ∀ j nt2 q2 G2 σ2, CS c σ2 j nt2 q2 G2 → Fr (cC (cdr c)) σ σ2 → SumI c i nt q G j nt2 q2 G2 → Q (some (vI 1)) σ2)
    (hF : ∀ j σ2, CP c σ2 j → Fr (cC (cdr c)) σ σ2 → RSumF c i nt q G j → Q (some (vI 0)) σ2) : MT d mX4_readSum [vR 6 0] σ Q := by
  have hnt := h.2.1.2
  have hq := h.2.2.1.2
  refine wX4_readSum d σ Q (by omega) (term_c (d - 1) σ _ (by omega) h (fun hn2 j g σ2 ts gk cs fr => ⟨_, rfl, fun _ => ?_, fun y => absurd y (by decide)⟩) (fun j σ2 tf cp fr => ⟨_, rfl, fun y => absurd rfl y, fun _ => ?_⟩))
  · refine sum_loop d Q (by omega) 80 0 j (nt + 1) (q + 1) _ σ2 (by omega) (by omega) cs (fun j2 nt2 q2 G2 σ4 c4 f4 e4 l4 q4 g4 r4 => ?_) (fun j2 σ4 c4 f4 r4 => ?_)
    · refine hS j2 nt2 q2 G2 σ4 c4 (fr.tr f4) ⟨Ex.uF.tr e4 (by omega), by omega, by omega, fun hh a => ?_, ?_⟩
      · exact ((HG.one (mv_leaf ts.leaf (by omega))).ext (fun x _ y => e4 x (by omega))).tr (g4 (hh + 1) (by omega) (by omega)) (by omega) (by omega)
      · intro d' σ' Q' hd' h' k'
        exact wX11_readSum d' σ' Q' (by omega) (term_rS (d' - 1) σ' _ (by omega) h' (by omega) hn2 ts (fun σ3 a3 b3 => ⟨rfl, r4 d' σ3 Q' (by omega) a3 (fun σ5 a5 b5 => k' σ5 a5 (b3.tr b5))⟩))
    · refine hF j2 σ4 c4 (fr.tr f4) ?_
      intro d' σ' Q' hd' h' k'
      exact wX11_readSum d' σ' Q' (by omega) (term_rS (d' - 1) σ' _ (by omega) h' (by omega) hn2 ts (fun σ3 a3 b3 => ⟨rfl, r4 d' σ3 Q' (by omega) a3 (fun σ5 a5 b5 => k' σ5 a5 (b3.tr b5))⟩))
  · refine hF j σ2 cp fr ?_
    intro d' σ' Q' hd' h' k'
    exact wX11_readSum d' σ' Q' (by omega) (term_rF (d' - 1) σ' _ (by omega) h' (by omega) tf (fun σ3 a3 b3 => ⟨rfl, wX11_readSum_4 d' Q' σ3 (by omega) ⟨fun _ => k' σ3 a3 b3, fun y => absurd y a3.ne⟩⟩))
