theorem r88_F {c : CX} {j al nl : Nat} (d : Nat) (σ : HS) (Q : Option AV → HS → Prop) (hd : 6 ≤ d) (h : FZ c σ j al) (hn : nl < 12) (kF : ∀ σ2, FZ c σ2 j al → Fr (cL (crb c)) σ σ2 → Q none σ2) : atX11_readLine_88 d Q σ (nI (12 * crb c + nl)) := by
  have hrb := h.1.2.2.1
  have vx : vp_in (nI (12 * crb c + nl)) 24 := vp_in_nI (by omega) (by omega)
  refine wX11_readLine_88 d Q σ _ (by omega) ⟨vx, ?_⟩
  rintro _ rfl
  rw [nI_clamp (show 12 * crb c + nl < 2 ^ 31 by omega)]
  have hf : Fr (cL (crb c)) σ (up σ 23 0 (12 * crb c + nl) (σ.1 0 0 32)) := Fr.rf.up (cL_ar 0 hn rfl)
  have hz := h.ar (k := 23) (i' := 0) (s := 12 * crb c + nl) (x := σ.1 0 0 32) (Or.inl rfl)
  refine must_F (d - 1) _ _ _ (by omega) hz.ne ⟨rfl, ?_⟩
  refine aNum_F (d - 1) _ _ _ (by omega) hz.ne (fun y => ⟨_, rfl, vx, ?_⟩)
  rintro _ rfl
  replace hf := hf.up (k := 24) (i := 0) (s := 12 * crb c + nl) (x := y) (cL_ar 0 hn rfl)
  replace hz := hz.ar (k := 24) (i' := 0) (s := 12 * crb c + nl) (x := y) (Or.inl rfl)
  refine aKind_F (d - 1) _ _ (by omega) hz.ne (fun y => ⟨_, rfl, vx, ?_⟩)
  rintro _ rfl
  replace hf := hf.up (k := 25) (i := 0) (s := 12 * crb c + nl) (x := y) (cL_ar 0 hn rfl)
  replace hz := hz.ar (k := 25) (i' := 0) (s := 12 * crb c + nl) (x := y) (Or.inl rfl)
  refine must_F (d - 1) _ _ _ (by omega) hz.ne ⟨rfl, ?_⟩
  refine aNum_F (d - 1) _ _ _ (by omega) hz.ne (fun y => ⟨_, rfl, vx, ?_⟩)
  rintro _ rfl
  replace hf := hf.up (k := 26) (i := 0) (s := 12 * crb c + nl) (x := y) (cL_ar 0 hn rfl)
  replace hz := hz.ar (k := 26) (i' := 0) (s := 12 * crb c + nl) (x := y) (Or.inl rfl)
  refine must_F (d - 1) _ _ _ (by omega) hz.ne ⟨rfl, ?_⟩
  exact ⟨fun _ => r200_F d _ Q (by omega) hz hn (fun σ9 z9 f9 => kF σ9 z9 (hf.tr f9)), fun y => absurd y hz.ne⟩
/-! what the reference answers to a line -/
def RLi (c : CX) (i nt q : Nat) (G : Nat → GI) (nl : Nat) (st : Nat → Nat) (L : Nat → LI) (j nt2 q2 : Nat) (G2 : Nat → GI) (st2 : Nat → Nat) (L2 : Nat → LI) : Prop := ∀ d σ Q, 20 ≤ d → RS c σ i nt q G → RLn c σ nl st L → (∀ σ2, RS c σ2 j nt2 q2 G2 → RLn c σ2 (nl + 1) st2 L2 → Fr (cL (crb c)) σ σ2 → Q none σ2) → MT d mX11_readLine [vR 0 0] σ Q
def RLiF (c : CX) (i nt q : Nat) (G : Nat → GI) (nl : Nat) (st : Nat → Nat) (L : Nat → LI) (j al : Nat) : Prop := ∀ d σ Q, 20 ≤ d → RS c σ i nt q G → RLn c σ nl st L → (∀ σ2, FZ c σ2 j al → Fr (cL (crb c)) σ σ2 → Q none σ2) → MT d mX11_readLine [vR 0 0] σ Q
theorem rl_40 {c : CX} {i nt q nl : Nat} {G : Nat → GI} {st : Nat → Nat} {L : Nat → LI} (d : Nat) (x1 : Int32) (σ : HS) (Q : Option AV → HS → Prop) (hd : 20 ≤ d) (h : RS c σ i nt q G) (hl : RLn c σ nl st L) (hn : nl < 12) (hq : st nl = q)
    (k0 : ∀ σ2, RS c σ2 i nt q G → RLn c σ2 nl st L → σ2.1 22 0 (12 * crb c + nl) = nI (st nl) → Fr (cL (crb c)) σ σ2 → (x1 = 0 → atX11_readLine_88 d Q σ2 (nI (12 * crb c + nl))) ∧ (¬ x1 = 0 → (MT (d - 1) mX11_next [vR 0 0] σ2 (fun r σ_29 => r = none ∧ (MT (d - 1) mX11_e [vR 0 0] σ_29 (fun r σ_31 => r = none ∧ atX11_readLine_88 d Q σ_31 (nI (12 * crb c + nl)))))))) : atX11_readLine_22 d Q σ x1 := by
  have hrb := h.1.2.2.1
  have eb := h.2.2.2.2.2.2.2.1
  refine wX11_readLine_22 d Q σ _ ?_
  rw [eb, nI_clamp (by omega), hl.1]
  refine ⟨vp_in_nI hrb (by omega), fun _ => ?_, fun y => absurd ((nI_eq (b := 12) (by omega) (by omega)).mp y) (by omega)⟩
  refine wX11_readLine_40 d Q σ _ (by omega) ⟨fun _ => ?_, fun y => absurd h.fk y⟩
  rw [eb, nI_clamp (by omega), hl.1]
  refine ⟨vp_in_nI hrb (by omega), ?_⟩
  rintro _ rfl
  rw [show (12 : Int32) * nI (crb c) + nI nl = nI (12 * crb c + nl) by rw [show (12 : Int32) = nI 12 from rfl, pk_mul, nI_add], h.2.2.2.2.2.1.1]
  refine ⟨vp_in_nI (by omega) (by omega), ?_⟩
  rintro _ rfl
  rw [nI_clamp (show 12 * crb c + nl < 2 ^ 31 by omega)]
  exact k0 _ (h.ar (Or.inl rfl)) (hl.up rfl) (by rw [up_same, hq]) (Fr.rf.up (cL_ar 0 hn rfl))
theorem rl_plain {c : CX} {i nt q nl : Nat} {G : Nat → GI} {st : Nat → Nat} {L : Nat → LI} (d : Nat) (σ : HS) (Q : Option AV → HS → Prop) (hd : 20 ≤ d) (h : RS c σ i nt q G) (hl : RLn c σ nl st L) (hn : nl < 12) (hq : st nl = q) (hw : tW c i = 7)
    (k : ∀ σ2, RS c σ2 i nt q G → RLn c σ2 nl st L → σ2.1 22 0 (12 * crb c + nl) = nI (st nl) → Fr (cL (crb c)) σ σ2 → atX11_readLine_88 d Q σ2 (nI (12 * crb c + nl))) : MT d mX11_readLine [vR 0 0] σ Q := by
  refine wX11_readLine d σ Q (by omega) ?_
  rintro _ rfl
  have e : bI (σ.1 0 0 17 = 2 ∧ σ.2 = 2003330414) = 0 := (bI_iff h.tk.w6).mpr (by omega)
  rw [e]
  refine ⟨fun y => absurd rfl y, fun _ => ⟨fun y => absurd (h.tk.w7.mpr hw) y, fun _ => ?_⟩⟩
  exact rl_40 d 0 σ Q hd h hl hn hq (fun σ2 a b e f => ⟨fun _ => k σ2 a b e f, fun y => absurd rfl y⟩)
theorem rl_first {c : CX} {i nt q nl : Nat} {G : Nat → GI} {st : Nat → Nat} {L : Nat → LI} (hw : tW c i ≠ 6 ∧ tW c i ≠ 7) : RLiF c i nt q G nl st L i 0 := by
  intro d σ Q hd h hl k
  refine wX11_readLine d σ Q (by omega) ?_
  rintro _ rfl
  have e : bI (σ.1 0 0 17 = 2 ∧ σ.2 = 2003330414) = 0 := (bI_iff h.tk.w6).mpr (by omega)
  rw [e]
  refine ⟨fun y => absurd rfl y, fun _ => ⟨fun _ => ?_, fun y => absurd (h.tk.w7.mp y) hw.2⟩⟩
  refine wX11_readLine_36 d Q σ _ (by omega) (wrong_s (d - 1) σ _ (by omega) h (fun σ2 r f => ⟨rfl, ?_⟩))
  exact wX11_readLine_40 d Q σ2 _ (by omega) ⟨fun y => absurd y r.ne, fun _ => k σ2 (FZ.of h h.2.2.1 r f.TE) f.TE.EL⟩
/-- a line too many -/
theorem rl_13 {c : CX} {i nt q : Nat} {G : Nat → GI} {st : Nat → Nat} {L : Nat → LI} : RLiF c i nt q G 12 st L i 0 := by
  intro d σ Q hd h hl k
  have hrb := h.1.2.2.1
  have eb := h.2.2.2.2.2.2.2.1
  have k36 : ∀ x1, atX11_readLine_36 d Q σ x1 := by
    intro x1
    refine wX11_readLine_36 d Q σ _ (by omega) (wrong_s (d - 1) σ _ (by omega) h (fun σ2 r f => ⟨rfl, ?_⟩))
    exact wX11_readLine_40 d Q σ2 _ (by omega) ⟨fun y => absurd y r.ne, fun _ => k σ2 (FZ.of h h.2.2.1 r f.TE) f.TE.EL⟩
  have k22 : ∀ x1, atX11_readLine_22 d Q σ x1 := by
    intro x1
    refine wX11_readLine_22 d Q σ _ ?_
    rw [eb, nI_clamp (by omega), hl.1]
    exact ⟨vp_in_nI hrb (by omega), fun y => absurd rfl y, fun _ => k36 x1⟩
  refine wX11_readLine d σ Q (by omega) ?_
  rintro _ rfl
  exact ⟨fun _ => k22 _, fun _ => ⟨fun _ => k36 _, fun _ => k22 _⟩⟩
theorem rl_S {c : CX} {i nt q nl : Nat} {G : Nat → GI} {st : Nat → Nat} {L : Nat → LI} {I : LI} (hn : nl < 12) (hq : st nl = q) (s : LnS c i I) : RLi c i nt q G nl st L (i + 8) nt q G (uF st (nl + 1) q) (uF L nl I) := by
  intro d σ Q hd h hl k
  refine rl_plain d σ Q hd h hl hn hq s.1 (fun σ2 a b e f => r88 d σ2 Q (by omega) a b hn e (fun I2 s2 σ3 a3 b3 f3 => ?_) (fun j al s2 => (s.notF s2).elim))
  have : I2 = I := by
    obtain ⟨_, _, _, _, _, _, _, _, _, z⟩ := s
    obtain ⟨_, _, _, _, _, _, _, _, _, z2⟩ := s2
    rw [z, z2]
  subst this
  exact k σ3 a3 b3 (f.tr f3)
theorem rl_F {c : CX} {i nt q nl j al : Nat} {G : Nat → GI} {st : Nat → Nat} {L : Nat → LI} (hn : nl < 12) (hq : st nl = q) (h6 : tW c i ≠ 6) (s : LnF c i j al) : RLiF c i nt q G nl st L j al := by
  by_cases h7 : tW c i = 7
  · intro d σ Q hd h hl k
    refine rl_plain d σ Q hd h hl hn hq h7 (fun σ2 a b e f => r88 d σ2 Q (by omega) a b hn e (fun I2 s2 => (s2.notF s).elim) (fun j2 al2 s2 σ3 z3 f3 => ?_))
    obtain ⟨rfl, rfl⟩ := s.det s2
    exact k σ3 z3 (f.tr f3)
  · have : j = i ∧ al = 0 := by
      unfold LnF at s
      omega
    obtain ⟨rfl, rfl⟩ := this
    exact rl_first ⟨h6, h7⟩
theorem rl_when {c : CX} {i nt q nl : Nat} {G : Nat → GI} {st : Nat → Nat} {L : Nat → LI} (d : Nat) (σ : HS) (Q : Option AV → HS → Prop) (hd : 20 ≤ d) (h : RS c σ i nt q G) (hl : RLn c σ nl st L) (hn : nl < 12) (hq : st nl = q) (hw : tW c i = 6)
    (k : ∀ σ2, RS c σ2 (i + 1) nt q G → RLn c σ2 nl st L → σ2.1 22 0 (12 * crb c + nl) = nI (st nl) → Fr (cL (crb c)) σ σ2 → MT (d - 1) mX11_e [vR 0 0] σ2 (fun r σ_31 => r = none ∧ atX11_readLine_88 d Q σ_31 (nI (12 * crb c + nl)))) : MT d mX11_readLine [vR 0 0] σ Q := by
  refine wX11_readLine d σ Q (by omega) ?_
  rintro _ rfl
  rw [bI_t (h.tk.w6.mpr hw)]
  refine ⟨fun _ => ?_, fun y => absurd y (by decide)⟩
  refine rl_40 d 1 σ Q hd h hl hn hq (fun σ2 a b e f => ⟨fun y => absurd y (by decide), fun _ => ?_⟩)
  refine next_s (d - 1) σ2 _ (by omega) a (by omega) (fun σ3 a3 f3 => ⟨rfl, k σ3 a3 (b.fr f3.NE) ?_ (f.tr f3.NE.EL)⟩)
  rw [Fr.ln (rb := crb c) f3.NE (k := 22) (Or.inl rfl)]
  exact e
theorem rl_wS {c : CX} {i nt q nl j nt2 q2 : Nat} {G G2 : Nat → GI} {st : Nat → Nat} {L : Nat → LI} {I : LI} (hn : nl < 12) (hq : st nl = q) (hw : tW c i = 6) (r : REx c (i + 1) nt q G j nt2 q2 G2) (s : LnS c j I) : RLi c i nt q G nl st L (j + 8) nt2 q2 G2 (uF st (nl + 1) q2) (uF L nl I) := by
  intro d σ Q hd h hl k
  refine rl_when d σ Q hd h hl hn hq hw (fun σ2 a b e f => r (d - 1) σ2 _ (by omega) a (fun σ3 a3 f3 => ⟨rfl, ?_⟩))
  refine r88 d σ3 Q (by omega) a3 (b.fr f3) hn (by rw [Fr.ln (rb := crb c) f3 (k := 22) (Or.inl rfl)]; exact e) (fun I2 s2 σ4 a4 b4 f4 => ?_) (fun j al s2 => (s.notF s2).elim)
  have : I2 = I := by
    obtain ⟨_, _, _, _, _, _, _, _, _, z⟩ := s
    obtain ⟨_, _, _, _, _, _, _, _, _, z2⟩ := s2
    rw [z, z2]
  subst this
  exact k σ4 a4 b4 ((f.tr f3.EL).tr f4)
theorem rl_wF {c : CX} {i nt q nl j nt2 q2 j2 al : Nat} {G G2 : Nat → GI} {st : Nat → Nat} {L : Nat → LI} (hn : nl < 12) (hq : st nl = q) (hw : tW c i = 6) (r : REx c (i + 1) nt q G j nt2 q2 G2) (s : LnF c j j2 al) : RLiF c i nt q G nl st L j2 al := by
  intro d σ Q hd h hl k
  refine rl_when d σ Q hd h hl hn hq hw (fun σ2 a b e f => r (d - 1) σ2 _ (by omega) a (fun σ3 a3 f3 => ⟨rfl, ?_⟩))
  refine r88 d σ3 Q (by omega) a3 (b.fr f3) hn (by rw [Fr.ln (rb := crb c) f3 (k := 22) (Or.inl rfl)]; exact e) (fun I2 s2 => (s2.notF s).elim) (fun j3 al3 s2 σ4 z4 f4 => ?_)
  obtain ⟨rfl, rfl⟩ := s.det s2
  exact k σ4 z4 ((f.tr f3.EL).tr f4)
theorem rl_wE {c : CX} {i nt q nl j : Nat} {G : Nat → GI} {st : Nat → Nat} {L : Nat → LI} (hn : nl < 12) (hq : st nl = q) (hw : tW c i = 6) (hj : j ≤ ck c) (r : RExF c (i + 1) nt q G j) : RLiF c i nt q G nl st L j 0 := by
  intro d σ Q hd h hl k
  refine rl_when d σ Q hd h hl hn hq hw (fun σ2 a b e f => r (d - 1) σ2 _ (by omega) a (fun σ3 r3 f3 => ⟨rfl, ?_⟩))
  exact r88_F d σ3 Q (by omega) (FZ.of a hj r3 f3) hn (fun σ4 z4 f4 => k σ4 z4 ((f.tr f3.EL).tr f4))
