/-! a line, in the reference -/
abbrev LI := Nat × Nat × Nat × Nat
def lnK (k : Nat) : Bool := Nat.beq k 22 || Nat.beq k 23 || Nat.beq k 24 || Nat.beq k 25 || Nat.beq k 26 || Nat.beq k 27
def cL (rb k i s : Nat) : Bool := cE rb k i s || (Nat.beq k 21 && Nat.beq s rb) || (lnK k && decide (12 * rb ≤ s ∧ s < 12 * rb + 12))
theorem cE_L {rb k i s : Nat} (h : cL rb k i s = false) : cE rb k i s = false := by
  unfold cL at h
  simp only [Bool.or_eq_false_iff] at h
  exact h.1.1
theorem Fr.EL {rb : Nat} {σ σ2 : HS} (h : Fr (cE rb) σ σ2) : Fr (cL rb) σ σ2 := h.mono (fun _ _ _ => cE_L)
theorem cL_ar {rb l k : Nat} (i : Nat) (hl : l < 12) (hk : lnK k = true) : cL rb k i (12 * rb + l) = true := by
  have : decide (12 * rb ≤ 12 * rb + l ∧ 12 * rb + l < 12 * rb + 12) = true := decide_eq_true ⟨by omega, by omega⟩
  unfold cL
  rw [this, hk]
  simp
theorem cL_lm {rb i : Nat} : cL rb 21 i rb = true := by simp [cL]
def RLa (c : CX) (σ : HS) (l f t : Nat) (L : LI) : Prop := σ.1 22 0 (12 * crb c + l) = nI f ∧ σ.1 23 0 (12 * crb c + l) = nI t ∧ σ.1 24 0 (12 * crb c + l) = nI L.1 ∧ σ.1 25 0 (12 * crb c + l) = nI L.2.1 ∧ σ.1 26 0 (12 * crb c + l) = nI L.2.2.1 ∧ σ.1 27 0 (12 * crb c + l) = nI L.2.2.2
def RLn (c : CX) (σ : HS) (nl : Nat) (st : Nat → Nat) (L : Nat → LI) : Prop := σ.1 21 0 (crb c) = nI nl ∧ ∀ l, l < nl → RLa c σ l (st l) (st (l + 1)) (L l)
theorem lnK_E {rb k i s : Nat} (hk : lnK k = true ∨ k = 21) : cE rb k i s = false := by
  rcases hk with hk | rfl
  · unfold lnK at hk
    simp only [Bool.or_eq_true, Nat.beq_eq] at hk
    rcases hk with ((((rfl | rfl) | rfl) | rfl) | rfl) | rfl <;> rfl
  · rfl
theorem Fr.ln {rb : Nat} {σ σ2 : HS} (h : Fr (cE rb) σ σ2) {k : Nat} (hk : lnK k = true ∨ k = 21) : σ2.1 k = σ.1 k := funext fun i => funext fun s => h k i s (lnK_E hk)
theorem RLn.fr {c : CX} {σ σ2 : HS} {nl : Nat} {st : Nat → Nat} {L : Nat → LI} (h : RLn c σ nl st L) (f : Fr (cE (crb c)) σ σ2) : RLn c σ2 nl st L := by
  refine ⟨by rw [f.ln (Or.inr rfl)]; exact h.1, fun l hl => ?_⟩
  have := h.2 l hl
  unfold RLa at this ⊢
  rw [f.ln (k := 22) (Or.inl rfl), f.ln (k := 23) (Or.inl rfl), f.ln (k := 24) (Or.inl rfl), f.ln (k := 25) (Or.inl rfl), f.ln (k := 26) (Or.inl rfl), f.ln (k := 27) (Or.inl rfl)]
  exact this
theorem up_ln {σ : HS} {k k' i s m : Nat} {x : Int32} (h : s ≠ m) : (up σ k i m x).1 k' 0 s = σ.1 k' 0 s := by
  show (if _ then _ else _) = _
  rw [if_neg (fun z => h z.2.2)]
theorem RLa.up {c : CX} {σ : HS} {l f t m k : Nat} {L : LI} {x : Int32} (h : RLa c σ l f t L) (hm : l ≠ m) : RLa c (up σ k 0 (12 * crb c + m) x) l f t L := by
  unfold RLa at h ⊢
  have e : 12 * crb c + l ≠ 12 * crb c + m := by omega
  rw [up_ln e, up_ln e, up_ln e, up_ln e, up_ln e, up_ln e]
  exact h
theorem RLn.up {c : CX} {σ : HS} {nl k : Nat} {st : Nat → Nat} {L : Nat → LI} {x : Int32} (h : RLn c σ nl st L) (hk : lnK k = true) : RLn c (up σ k 0 (12 * crb c + nl) x) nl st L := by
  refine ⟨?_, fun l hl => (h.2 l hl).up (by omega)⟩
  rw [up_ne (fun z => by subst z; revert hk; decide)]
  exact h.1
theorem RS.ar {c : CX} {σ : HS} {i nt q k i' s : Nat} {G : Nat → GI} {x : Int32} (h : RS c σ i nt q G) (hk : lnK k = true ∨ k = 21) : RS c (up σ k i' s x) i nt q G := by
  refine h.fr rfl (fun s' _ => ?_) (fun k' hk' => ?_)
  · rw [up_ne (fun z => by subst z; revert hk; decide)]
  · refine up_ne (fun z => ?_)
    subst z
    simp only [List.mem_cons, List.not_mem_nil, or_false] at hk'
    rcases hk' with rfl | rfl | rfl | rfl <;> revert hk <;> decide
/-! a fault has been found -/
def fkv (c : CX) (j al : Nat) : Int32 := if al = 1 then 3 else if tW c j = 1 then 1 else 2
theorem fkv_ne (c : CX) (j al : Nat) : ¬ fkv c j al = 0 ∧ fkv c j al ≤ 3 := by
  unfold fkv
  by_cases a : al = 1
  · rw [if_pos a]; decide
  · rw [if_neg a]
    by_cases b : tW c j = 1
    · rw [if_pos b]; decide
    · rw [if_neg b]; decide
def FZ (c : CX) (σ : HS) (j al : Nat) : Prop := CXok c ∧ j ≤ ck c ∧ σ.1 0 0 13 = fkv c j al ∧ σ.1 0 0 14 = nI (tP c j) ∧ σ.1 0 0 15 = nI (tP c j) ∧ RX σ (cn c) (cU c) ∧ σ.1 0 0 31 = nI (crb c)
theorem FZ.ne {c : CX} {σ : HS} {j al : Nat} (h : FZ c σ j al) : ¬ σ.1 0 0 13 = 0 := by
  rw [h.2.2.1]
  exact (fkv_ne c j al).1
theorem FZ.ar {c : CX} {σ : HS} {j al k i' s : Nat} {x : Int32} (h : FZ c σ j al) (hk : lnK k = true ∨ k = 21) : FZ c (up σ k i' s x) j al := by
  have e1 : (0 : Nat) ≠ k := fun z => by subst z; revert hk; decide
  have e2 : (20 : Nat) ≠ k := fun z => by subst z; revert hk; decide
  obtain ⟨h1, h2, h3, h4, h5, h6, h7⟩ := h
  refine ⟨h1, h2, ?_, ?_, ?_, ⟨h6.1, ?_, ?_, h6.2.2.2⟩, ?_⟩
  · rw [up_ne e1]; exact h3
  · rw [up_ne e1]; exact h4
  · rw [up_ne e1]; exact h5
  · rw [up_ne e1]; exact h6.2.1
  · rw [up_ne e2]; exact h6.2.2.1
  · rw [up_ne e1]; exact h7
theorem FZ.of {c : CX} {σ σ2 : HS} {i nt q j : Nat} {G : Nat → GI} (h : RS c σ i nt q G) (hj : j ≤ ck c) (r : RF c σ2 j) (f : Fr (cE (crb c)) σ σ2) : FZ c σ2 j 0 := by
  obtain ⟨h1, h2, h3, h4, h5, h6, h7, h8, h9⟩ := h
  refine ⟨h1, hj, ?_, r.2.1, r.2.2, h2.fr f rfl (fun _ => rfl), by rw [f 0 0 31 rfl]; exact h8⟩
  unfold fkv
  rw [if_neg (by omega)]
  exact r.1
theorem is_F {c : CX} {j al : Nat} (d : Nat) (x : Int32) (σ : HS) (Q : Option AV → HS → Prop) (hd : 1 ≤ d) (h : FZ c σ j al) (k : ∀ y, Q (some (vI y)) σ) : MT d mX11_is [vR 0 0, vI x] σ Q := by
  refine wX11_is d _ σ Q hd ⟨fun _ => k _, fun _ => ?_⟩
  have hb := (h.1.rng h.2.1).2.1
  rw [h.2.2.2.2.1]
  exact sign_ok (d - 1) (cn c) _ (cU c) σ _ h.2.2.2.2.2.1 (by omega) ⟨_, rfl, fun _ => k _, fun _ => k _⟩
theorem r200_F {c : CX} {j al nl : Nat} (d : Nat) (σ : HS) (Q : Option AV → HS → Prop) (hd : 5 ≤ d) (h : FZ c σ j al) (hn : nl < 12) (k : ∀ σ2, FZ c σ2 j al → Fr (cL (crb c)) σ σ2 → Q none σ2) : atX11_readLine_200 d Q σ (nI (12 * crb c + nl)) := by
  have hrb := h.1.2.2.1
  have vx : vp_in (nI (12 * crb c + nl)) 24 := vp_in_nI (by omega) (by omega)
  refine wX11_readLine_200 d Q σ _ (by omega) (aNum_F (d - 1) _ σ _ (by omega) h.ne (fun y => ⟨_, rfl, vx, ?_⟩))
  rintro _ rfl
  rw [nI_clamp (by omega)]
  have h2 := h.ar (k := 27) (i' := 0) (s := 12 * crb c + nl) (x := y) (Or.inl rfl)
  refine is_F (d - 1) _ _ _ (by omega) h2 (fun y2 => ⟨_, rfl, must_F (d - 1) _ _ _ (by omega) h2.ne ⟨rfl, ?_⟩⟩)
  rw [h2.2.2.2.2.2.2, nI_clamp (by omega)]
  refine ⟨vp_in_nI hrb (by omega), vp_in_nI hrb (by omega), ?_⟩
  rintro _ rfl
  exact k _ (h2.ar (Or.inr rfl)) ((Fr.rf.up (cL_ar 0 hn rfl)).up cL_lm)
theorem r200_S {c : CX} {i nt q nl : Nat} {G : Nat → GI} (d : Nat) (σ : HS) (Q : Option AV → HS → Prop) (hd : 5 ≤ d) (h : RS c σ i nt q G) (hn : nl < 12) (hm : σ.1 21 0 (crb c) = nI nl)
    (kOK : tW c i = 3 → tW c (i + 1) = 59 → ∀ σ2, RS c σ2 (i + 2) nt q G → Fr (cL (crb c)) σ σ2 → (∀ k, lnK k = true → k ≠ 27 → σ2.1 k = σ.1 k) → (∀ s, s ≠ 12 * crb c + nl → σ2.1 27 0 s = σ.1 27 0 s) → σ2.1 27 0 (12 * crb c + nl) = nI (tV c i) → σ2.1 21 0 (crb c) = nI (nl + 1) → Q none σ2)
    (kF : ∀ j, ((tW c i ≠ 3 ∧ j = i) ∨ (tW c i = 3 ∧ tW c (i + 1) ≠ 59 ∧ j = i + 1)) → ∀ σ2, FZ c σ2 j 0 → Fr (cL (crb c)) σ σ2 → Q none σ2) : atX11_readLine_200 d Q σ (nI (12 * crb c + nl)) := by
  have hrb := h.1.2.2.1
  have vx : vp_in (nI (12 * crb c + nl)) 24 := vp_in_nI (by omega) (by omega)
  refine wX11_readLine_200 d Q σ _ (by omega) (aNum_s (d - 1) 3 σ _ (by omega) h (by omega) (fun w3 σ1 a1 f1 => ⟨_, rfl, vx, ?_⟩) (fun w3 y σ1 r1 f1 => ⟨_, rfl, vx, ?_⟩))
  · rintro _ rfl
    rw [nI_clamp (by omega)]
    have a2 := a1.ar (k := 27) (i' := 0) (s := 12 * crb c + nl) (x := nI (tV c i)) (Or.inl rfl)
    have f2 : Fr (cL (crb c)) σ (up σ1 27 0 (12 * crb c + nl) (nI (tV c i))) := f1.NE.EL.up (cL_ar 0 hn rfl)
    refine a2.is (d - 1) 59 _ _ (by omega) (by omega) (by omega) (fun w => ⟨_, rfl, ?_⟩) (fun w => ⟨_, rfl, ?_⟩)
    · refine must_s (d - 1) 59 1 _ _ (by omega) a2 (by omega) ⟨fun y => absurd y (by decide), fun y => absurd w y⟩ (fun _ σ3 a3 f3 => ⟨rfl, ?_⟩) (fun y => absurd w y)
      have em : σ3.1 21 0 (crb c) = nI nl := by
        rw [f3.NE (rb := crb c) |>.ln (Or.inr rfl), up_ne (by decide), f1.NE (rb := crb c) |>.ln (Or.inr rfl)]
        exact hm
      rw [a3.2.2.2.2.2.2.2.1, nI_clamp (by omega), em, nI_1]
      refine ⟨vp_in_nI hrb (by omega), vp_in_nI hrb (by omega), ?_⟩
      rintro _ rfl
      refine kOK w3 w _ (a3.ar (Or.inr rfl)) ((f2.tr f3.NE.EL).up cL_lm) (fun k hk hk2 => ?_) (fun s hs => ?_) ?_ up_same
      · rw [up_ne (fun z => by subst z; revert hk; decide), f3.NE (rb := crb c) |>.ln (Or.inl hk), up_ne hk2, f1.NE (rb := crb c) |>.ln (Or.inl hk)]
      · rw [up_ne (show (27 : Nat) ≠ 21 by decide), f3.NE (rb := crb c) |>.ln (k := 27) (Or.inl rfl), up_f hs, f1.NE (rb := crb c) |>.ln (k := 27) (Or.inl rfl)]
      · rw [up_ne (show (27 : Nat) ≠ 21 by decide), f3.NE (rb := crb c) |>.ln (k := 27) (Or.inl rfl), up_same]
    · refine must_s (d - 1) 59 0 _ _ (by omega) a2 (by omega) ⟨fun _ => w, fun _ => rfl⟩ (fun y => absurd y w) (fun _ σ3 r3 f3 => ⟨rfl, ?_⟩)
      have hz := FZ.of a2 a2.2.2.1 r3 f3.TE
      rw [hz.2.2.2.2.2.2, nI_clamp (by omega)]
      refine ⟨vp_in_nI hrb (by omega), vp_in_nI hrb (by omega), ?_⟩
      rintro _ rfl
      exact kF (i + 1) (Or.inr ⟨w3, w, rfl⟩) _ (hz.ar (Or.inr rfl)) ((f2.tr f3.TE.EL).up cL_lm)
  · rintro _ rfl
    rw [nI_clamp (by omega)]
    have hz := FZ.of h h.2.2.1 r1 f1.TE
    have h2 := hz.ar (k := 27) (i' := 0) (s := 12 * crb c + nl) (x := y) (Or.inl rfl)
    refine is_F (d - 1) _ _ _ (by omega) h2 (fun y2 => ⟨_, rfl, must_F (d - 1) _ _ _ (by omega) h2.ne ⟨rfl, ?_⟩⟩)
    rw [h2.2.2.2.2.2.2, nI_clamp (by omega)]
    refine ⟨vp_in_nI hrb (by omega), vp_in_nI hrb (by omega), ?_⟩
    rintro _ rfl
    exact kF i (Or.inl ⟨w3, rfl⟩) _ (h2.ar (Or.inr rfl)) ((f1.TE.EL.up (cL_ar 0 hn rfl)).up cL_lm)
def LnS (c : CX) (i : Nat) (I : LI) : Prop := tW c i = 7 ∧ tW c (i + 1) = 2 ∧ tW c (i + 2) = 4 ∧ tW c (i + 3) = 8 ∧ tW c (i + 4) = 3 ∧ tW c (i + 5) = 9 ∧ tW c (i + 6) = 3 ∧ tV c (i + 6) ≠ tV c (i + 4) ∧ tW c (i + 7) = 59 ∧ I = (tV c (i + 1), tV c (i + 2), tV c (i + 4), tV c (i + 6))
def LnF (c : CX) (i j al : Nat) : Prop := (tW c i ≠ 7 ∧ j = i ∧ al = 0) ∨ (tW c i = 7 ∧ ((tW c (i + 1) ≠ 2 ∧ j = i + 1 ∧ al = 0) ∨ (tW c (i + 1) = 2 ∧ ((tW c (i + 2) ≠ 4 ∧ j = i + 2 ∧ al = 0) ∨ (tW c (i + 2) = 4 ∧ ((tW c (i + 3) ≠ 8 ∧ j = i + 3 ∧ al = 0) ∨ (tW c (i + 3) = 8 ∧ ((tW c (i + 4) ≠ 3 ∧ j = i + 4 ∧ al = 0) ∨ (tW c (i + 4) = 3 ∧ ((tW c (i + 5) ≠ 9 ∧ j = i + 5 ∧ al = 0) ∨ (tW c (i + 5) = 9 ∧ ((tW c (i + 6) ≠ 3 ∧ j = i + 6 ∧ al = 0) ∨ (tW c (i + 6) = 3 ∧ ((tV c (i + 6) = tV c (i + 4) ∧ j = i + 6 ∧ al = 1) ∨ (tV c (i + 6) ≠ tV c (i + 4) ∧ tW c (i + 7) ≠ 59 ∧ j = i + 7 ∧ al = 0)))))))))))))))
theorem LnS.notF {c : CX} {i j al : Nat} {I : LI} (a : LnS c i I) (b : LnF c i j al) : False := by
  obtain ⟨a1, a2, a3, a4, a5, a6, a7, a8, a9, _⟩ := a
  unfold LnF at b
  omega
theorem LnF.det {c : CX} {i j al j2 al2 : Nat} (a : LnF c i j al) (b : LnF c i j2 al2) : j2 = j ∧ al2 = al := by
  unfold LnF at a b
  omega
theorem r88 {c : CX} {i nt q nl : Nat} {G : Nat → GI} {st : Nat → Nat} {L : Nat → LI} (d : Nat) (σ : HS) (Q : Option AV → HS → Prop) (hd : 6 ≤ d) (h : RS c σ i nt q G) (hl : RLn c σ nl st L) (hn : nl < 12) (hfr : σ.1 22 0 (12 * crb c + nl) = nI (st nl))
    (kOK : ∀ I, LnS c i I → ∀ σ2, RS c σ2 (i + 8) nt q G → RLn c σ2 (nl + 1) (uF st (nl + 1) q) (uF L nl I) → Fr (cL (crb c)) σ σ2 → Q none σ2)
    (kF : ∀ j al, LnF c i j al → ∀ σ2, FZ c σ2 j al → Fr (cL (crb c)) σ σ2 → Q none σ2) : atX11_readLine_88 d Q σ (nI (12 * crb c + nl)) := by
  have hrb := h.1.2.2.1
  have vx : vp_in (nI (12 * crb c + nl)) 24 := vp_in_nI (by omega) (by omega)
  refine wX11_readLine_88 d Q σ _ (by omega) ⟨vx, ?_⟩
  rintro _ rfl
  rw [nI_clamp (by omega), h.2.2.2.2.2.1.1]
  have h0 := h.ar (k := 23) (i' := 0) (s := 12 * crb c + nl) (x := nI q) (Or.inl rfl)
  have f0 : Fr (cL (crb c)) σ (up σ 23 0 (12 * crb c + nl) (nI q)) := Fr.rf.up (cL_ar 0 hn rfl)
  refine must_s (d - 1) 7 _ _ _ (by omega) h0 (by omega) (bI_iff h0.tk.w7) (fun e0 σ1 a0 b0 => ⟨rfl, ?_⟩) (fun n0 σ1 r0 b0 => ⟨rfl, ?_⟩)
  rotate_left
  · skip
    have hz := FZ.of h0 h0.2.2.1 r0 b0.TE
    have hf := f0.tr b0.TE.EL
    refine aNum_F (d - 1) _ _ _ (by omega) hz.ne (fun y => ⟨_, rfl, vx, ?_⟩)
    rintro _ rfl
    replace hf := hf.up (k := 24) (i := 0) (s := 12 * crb c + nl) (x := y) (cL_ar 0 hn rfl)
    replace hz := hz.ar (k := 24) (i' := 0) (s := 12 * crb c + nl) (x := y) (Or.inl rfl)
    refine aKind_F (d - 1) _ _ (by omega) hz.ne (fun y => ⟨_, rfl, vx, ?_⟩)
    rintro _ rfl
    replace hf := hf.up (k := 25) (i := 0) (s := 12 * crb c + nl) (x := y) (cL_ar 0 hn rfl)
    replace hz := hz.ar (k := 25) (i' := 0) (s := 12 * crb c + nl) (x := y) (Or.inl rfl)
    refine must_F (d - 1) _ _ _ (by omega) hz.ne ⟨rfl, ?_⟩
    refine aNum_F (d - 1) _ _ _ (by omega) hz.ne (fun y => ⟨_, rfl, vx, ?_⟩)
    rintro _ rfl
    replace hf := hf.up (k := 26) (i := 0) (s := 12 * crb c + nl) (x := y) (cL_ar 0 hn rfl)
    replace hz := hz.ar (k := 26) (i' := 0) (s := 12 * crb c + nl) (x := y) (Or.inl rfl)
    refine must_F (d - 1) _ _ _ (by omega) hz.ne ⟨rfl, ?_⟩
    exact ⟨fun _ => r200_F d _ Q (by omega) hz hn (fun σ9 z9 f9 => kF _ _ (Or.inl ⟨n0, rfl, rfl⟩) σ9 z9 (hf.tr f9)), fun y => absurd y hz.ne⟩
  have h1 : RS c _ (i + 1) nt q G := a0
  have f1 := f0.tr b0.NE.EL
  refine aNum_s (d - 1) 2 _ _ (by omega) h1 (by omega) (fun e1 σ2 a1 b1 => ⟨_, rfl, vx, ?_⟩) (fun n1 y0 σ2 r1 b1 => ⟨_, rfl, vx, ?_⟩)
  rotate_left
  · skip
    rintro _ rfl
    have hz := (FZ.of h1 h1.2.2.1 r1 b1.TE).ar (k := 24) (i' := 0) (s := 12 * crb c + nl) (x := y0) (Or.inl rfl)
    have hf := (f1.tr b1.TE.EL).up (k := 24) (i := 0) (s := 12 * crb c + nl) (x := y0) (cL_ar 0 hn rfl)
    refine aKind_F (d - 1) _ _ (by omega) hz.ne (fun y => ⟨_, rfl, vx, ?_⟩)
    rintro _ rfl
    replace hf := hf.up (k := 25) (i := 0) (s := 12 * crb c + nl) (x := y) (cL_ar 0 hn rfl)
    replace hz := hz.ar (k := 25) (i' := 0) (s := 12 * crb c + nl) (x := y) (Or.inl rfl)
    refine must_F (d - 1) _ _ _ (by omega) hz.ne ⟨rfl, ?_⟩
    refine aNum_F (d - 1) _ _ _ (by omega) hz.ne (fun y => ⟨_, rfl, vx, ?_⟩)
    rintro _ rfl
    replace hf := hf.up (k := 26) (i := 0) (s := 12 * crb c + nl) (x := y) (cL_ar 0 hn rfl)
    replace hz := hz.ar (k := 26) (i' := 0) (s := 12 * crb c + nl) (x := y) (Or.inl rfl)
    refine must_F (d - 1) _ _ _ (by omega) hz.ne ⟨rfl, ?_⟩
    exact ⟨fun _ => r200_F d _ Q (by omega) hz hn (fun σ9 z9 f9 => kF _ _ (Or.inr ⟨e0, Or.inl ⟨n1, rfl, rfl⟩⟩) σ9 z9 (hf.tr f9)), fun y => absurd y hz.ne⟩
  rintro _ rfl
  have h2 : RS c _ (i + 2) nt q G := a1.ar (k := 24) (i' := 0) (s := 12 * crb c + nl) (x := nI (tV c (i + 1))) (Or.inl rfl)
  have f2 := (f1.tr b1.NE.EL).up (k := 24) (i := 0) (s := 12 * crb c + nl) (x := nI (tV c (i + 1))) (cL_ar 0 hn rfl)
  refine aKind_s (d - 1) _ _ (by omega) h2 (fun e2 σ3 a2 b2 => ⟨_, rfl, vx, ?_⟩) (fun n2 y0 σ3 r2 b2 => ⟨_, rfl, vx, ?_⟩)
  rotate_left
  · skip
    rintro _ rfl
    have hz := (FZ.of h2 h2.2.2.1 r2 b2.TE).ar (k := 25) (i' := 0) (s := 12 * crb c + nl) (x := y0) (Or.inl rfl)
    have hf := (f2.tr b2.TE.EL).up (k := 25) (i := 0) (s := 12 * crb c + nl) (x := y0) (cL_ar 0 hn rfl)
    refine must_F (d - 1) _ _ _ (by omega) hz.ne ⟨rfl, ?_⟩
    refine aNum_F (d - 1) _ _ _ (by omega) hz.ne (fun y => ⟨_, rfl, vx, ?_⟩)
    rintro _ rfl
    replace hf := hf.up (k := 26) (i := 0) (s := 12 * crb c + nl) (x := y) (cL_ar 0 hn rfl)
    replace hz := hz.ar (k := 26) (i' := 0) (s := 12 * crb c + nl) (x := y) (Or.inl rfl)
    refine must_F (d - 1) _ _ _ (by omega) hz.ne ⟨rfl, ?_⟩
    exact ⟨fun _ => r200_F d _ Q (by omega) hz hn (fun σ9 z9 f9 => kF _ _ (Or.inr ⟨e0, Or.inr ⟨e1, Or.inl ⟨n2, rfl, rfl⟩⟩⟩) σ9 z9 (hf.tr f9)), fun y => absurd y hz.ne⟩
  rintro _ rfl
  have h3 : RS c _ (i + 3) nt q G := a2.ar (k := 25) (i' := 0) (s := 12 * crb c + nl) (x := nI (tV c (i + 2))) (Or.inl rfl)
  have f3 := (f2.tr b2.NE.EL).up (k := 25) (i := 0) (s := 12 * crb c + nl) (x := nI (tV c (i + 2))) (cL_ar 0 hn rfl)
  refine must_s (d - 1) 8 _ _ _ (by omega) h3 (by omega) (bI_iff h3.tk.w8) (fun e3 σ4 a3 b3 => ⟨rfl, ?_⟩) (fun n3 σ4 r3 b3 => ⟨rfl, ?_⟩)
  rotate_left
  · skip
    have hz := FZ.of h3 h3.2.2.1 r3 b3.TE
    have hf := f3.tr b3.TE.EL
    refine aNum_F (d - 1) _ _ _ (by omega) hz.ne (fun y => ⟨_, rfl, vx, ?_⟩)
    rintro _ rfl
    replace hf := hf.up (k := 26) (i := 0) (s := 12 * crb c + nl) (x := y) (cL_ar 0 hn rfl)
    replace hz := hz.ar (k := 26) (i' := 0) (s := 12 * crb c + nl) (x := y) (Or.inl rfl)
    refine must_F (d - 1) _ _ _ (by omega) hz.ne ⟨rfl, ?_⟩
    exact ⟨fun _ => r200_F d _ Q (by omega) hz hn (fun σ9 z9 f9 => kF _ _ (Or.inr ⟨e0, Or.inr ⟨e1, Or.inr ⟨e2, Or.inl ⟨n3, rfl, rfl⟩⟩⟩⟩) σ9 z9 (hf.tr f9)), fun y => absurd y hz.ne⟩
  have h4 : RS c _ (i + 4) nt q G := a3
  have f4 := f3.tr b3.NE.EL
  refine aNum_s (d - 1) 3 _ _ (by omega) h4 (by omega) (fun e4 σ5 a4 b4 => ⟨_, rfl, vx, ?_⟩) (fun n4 y0 σ5 r4 b4 => ⟨_, rfl, vx, ?_⟩)
  rotate_left
  · skip
    rintro _ rfl
    have hz := (FZ.of h4 h4.2.2.1 r4 b4.TE).ar (k := 26) (i' := 0) (s := 12 * crb c + nl) (x := y0) (Or.inl rfl)
    have hf := (f4.tr b4.TE.EL).up (k := 26) (i := 0) (s := 12 * crb c + nl) (x := y0) (cL_ar 0 hn rfl)
    refine must_F (d - 1) _ _ _ (by omega) hz.ne ⟨rfl, ?_⟩
    exact ⟨fun _ => r200_F d _ Q (by omega) hz hn (fun σ9 z9 f9 => kF _ _ (Or.inr ⟨e0, Or.inr ⟨e1, Or.inr ⟨e2, Or.inr ⟨e3, Or.inl ⟨n4, rfl, rfl⟩⟩⟩⟩⟩) σ9 z9 (hf.tr f9)), fun y => absurd y hz.ne⟩
  rintro _ rfl
  have h5 : RS c _ (i + 5) nt q G := a4.ar (k := 26) (i' := 0) (s := 12 * crb c + nl) (x := nI (tV c (i + 4))) (Or.inl rfl)
  have f5 := (f4.tr b4.NE.EL).up (k := 26) (i := 0) (s := 12 * crb c + nl) (x := nI (tV c (i + 4))) (cL_ar 0 hn rfl)
  refine must_s (d - 1) 9 _ _ _ (by omega) h5 (by omega) (bI_iff h5.tk.w9) (fun e5 σ6 a5 b5 => ⟨rfl, ?_⟩) (fun n5 σ6 r5 b5 => ⟨rfl, ?_⟩)
  rotate_left
  · skip
    have hz := FZ.of h5 h5.2.2.1 r5 b5.TE
    have hf := f5.tr b5.TE.EL
    exact ⟨fun _ => r200_F d _ Q (by omega) hz hn (fun σ9 z9 f9 => kF _ _ (Or.inr ⟨e0, Or.inr ⟨e1, Or.inr ⟨e2, Or.inr ⟨e3, Or.inr ⟨e4, Or.inl ⟨n5, rfl, rfl⟩⟩⟩⟩⟩⟩) σ9 z9 (hf.tr f9)), fun y => absurd y hz.ne⟩
  have h6 : RS c _ (i + 6) nt q G := a5
  have f6 := f5.tr b5.NE.EL
  have v1 : σ6.1 22 0 (12 * crb c + nl) = nI (st nl) := by
    rw [Fr.ln (rb := crb c) b5.NE (k := 22) (Or.inl rfl), up_ne (show (22 : Nat) ≠ 26 by decide), Fr.ln (rb := crb c) b4.NE (k := 22) (Or.inl rfl), Fr.ln (rb := crb c) b3.NE (k := 22) (Or.inl rfl), up_ne (show (22 : Nat) ≠ 25 by decide), Fr.ln (rb := crb c) b2.NE (k := 22) (Or.inl rfl), up_ne (show (22 : Nat) ≠ 24 by decide), Fr.ln (rb := crb c) b1.NE (k := 22) (Or.inl rfl), Fr.ln (rb := crb c) b0.NE (k := 22) (Or.inl rfl), up_ne (show (22 : Nat) ≠ 23 by decide)]
    exact hfr
  have v2 : σ6.1 23 0 (12 * crb c + nl) = nI (q) := by
    rw [Fr.ln (rb := crb c) b5.NE (k := 23) (Or.inl rfl), up_ne (show (23 : Nat) ≠ 26 by decide), Fr.ln (rb := crb c) b4.NE (k := 23) (Or.inl rfl), Fr.ln (rb := crb c) b3.NE (k := 23) (Or.inl rfl), up_ne (show (23 : Nat) ≠ 25 by decide), Fr.ln (rb := crb c) b2.NE (k := 23) (Or.inl rfl), up_ne (show (23 : Nat) ≠ 24 by decide), Fr.ln (rb := crb c) b1.NE (k := 23) (Or.inl rfl), Fr.ln (rb := crb c) b0.NE (k := 23) (Or.inl rfl), up_same]
  have v3 : σ6.1 24 0 (12 * crb c + nl) = nI (tV c (i + 1)) := by
    rw [Fr.ln (rb := crb c) b5.NE (k := 24) (Or.inl rfl), up_ne (show (24 : Nat) ≠ 26 by decide), Fr.ln (rb := crb c) b4.NE (k := 24) (Or.inl rfl), Fr.ln (rb := crb c) b3.NE (k := 24) (Or.inl rfl), up_ne (show (24 : Nat) ≠ 25 by decide), Fr.ln (rb := crb c) b2.NE (k := 24) (Or.inl rfl), up_same]
  have v4 : σ6.1 25 0 (12 * crb c + nl) = nI (tV c (i + 2)) := by
    rw [Fr.ln (rb := crb c) b5.NE (k := 25) (Or.inl rfl), up_ne (show (25 : Nat) ≠ 26 by decide), Fr.ln (rb := crb c) b4.NE (k := 25) (Or.inl rfl), Fr.ln (rb := crb c) b3.NE (k := 25) (Or.inl rfl), up_same]
  have v5 : σ6.1 26 0 (12 * crb c + nl) = nI (tV c (i + 4)) := by
    rw [Fr.ln (rb := crb c) b5.NE (k := 26) (Or.inl rfl), up_same]
  have l6 : RLn c σ6 nl st L := ((((((((hl.up (k := 23) rfl).fr b0.NE).fr b1.NE).up (k := 24) rfl).fr b2.NE).up (k := 25) rfl).fr b3.NE |>.fr b4.NE).up (k := 26) rfl).fr b5.NE
  have r6 := h6.rng
  have r4 := h4.1.rng (i := i + 4) (by have := h6.2.2.1; omega)
  have k4 := r4.2.2.2.1 e4
  refine ⟨fun y => absurd h6.fk y, fun _ => ?_⟩
  have go : (tW c (i + 6) = 3 → tV c (i + 6) ≠ tV c (i + 4)) → atX11_readLine_200 d Q σ6 (nI (12 * crb c + nl)) := by
    intro hne
    refine r200_S d σ6 Q (by omega) h6 hn l6.1 (fun w3 w59 σ7 a7 f7 g1 g2 g3 g4 => ?_) (fun j hj σ7 z7 f7 => ?_)
    · refine kOK _ ⟨e0, e1, e2, e3, e4, e5, w3, hne w3, w59, rfl⟩ σ7 a7 ⟨g4, fun l hl' => ?_⟩ (f6.tr f7)
      by_cases z : l = nl
      · subst z
        rw [uF_s, uF_s, uF_n (by omega)]
        unfold RLa
        rw [g1 22 rfl (by decide), g1 23 rfl (by decide), g1 24 rfl (by decide), g1 25 rfl (by decide), g1 26 rfl (by decide)]
        exact ⟨v1, v2, v3, v4, v5, g3⟩
      · rw [uF_n (by omega), uF_n (by omega), uF_n z]
        have := l6.2 l (by omega)
        unfold RLa at this ⊢
        rw [g1 22 rfl (by decide), g1 23 rfl (by decide), g1 24 rfl (by decide), g1 25 rfl (by decide), g1 26 rfl (by decide), g2 _ (by omega)]
        exact this
    · refine kF j 0 ?_ σ7 z7 (f6.tr f7)
      have hj2 : (tW c (i + 6) ≠ 3 ∧ j = i + 6) ∨ (tW c (i + 6) = 3 ∧ tW c (i + 7) ≠ 59 ∧ j = i + 7) := hj
      unfold LnF
      omega
  refine ⟨fun _ => go (fun w3 => ?_), fun t4 => ⟨vx, ?_⟩⟩
  · rename_i y4
    exact absurd (h6.tk.tok.2.2.2.1.mpr w3) y4
  have w3 := h6.tk.tok.2.2.2.1.mp t4
  have nb : σ6.1 0 0 18 = nI (tV c (i + 6)) := by
    rcases h6.tk.2.2 with ⟨q1, q2⟩ | ⟨q1, q2⟩ | ⟨q1, q2, q3⟩ | ⟨q1, q2, q3⟩ | ⟨q1, q1', q2, _⟩ | ⟨q1, q2, q3⟩
    · omega
    · omega
    · omega
    · exact q3
    · omega
    · omega
  have k6 := r6.2.2.2.1 w3
  rw [v5, nb]
  refine And.symm (pk_eq (tV c (i + 6)) (tV c (i + 4)) (fun e => ?_) (fun e => go (fun _ => e)))
  refine wX11_fails (d - 1) _ _ σ6 _ ⟨fun _ => ?_, fun y => absurd (by rw [h6.fk]; decide) y⟩
  rintro _ rfl _ rfl
  have fz : Fr (cE (crb c)) σ6 (up (up σ6 0 0 13 3) 0 0 14 (σ6.1 0 0 15)) := (Fr.rf.up rfl).up rfl
  refine ⟨rfl, r200_F (j := i + 6) (al := 1) d _ Q (by omega) ⟨h6.1, h6.2.2.1, ?_, ?_, ?_, h6.2.1.fr fz rfl (fun _ => rfl), ?_⟩ hn (fun σ9 z9 f9 => kF (i + 6) 1 ?_ σ9 z9 ((f6.tr fz.EL).tr f9))⟩
  · rw [up_f (by decide), up_same]; rfl
  · rw [up_same]; exact h6.tk.1
  · rw [up_f (by decide), up_f (by decide)]; exact h6.tk.1
  · rw [up_f (by decide), up_f (by decide)]; exact h6.2.2.2.2.2.2.2.1
  · unfold LnF
    omega
