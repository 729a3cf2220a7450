/-! all lines -/
def LNK (nl : Nat) (st : Nat → Nat) (L : Nat → LI) (G : Nat → GI) : Prop := st 0 = 0 ∧ ∀ l, l < nl → st l ≤ st (l + 1) ∧ st (l + 1) ≤ st nl ∧ LIok (L l) ∧ ∃ hh, hh ≤ 1 ∧ HG G (st l) (st (l + 1)) 0 hh
theorem LNK.step {nl q q2 : Nat} {st : Nat → Nat} {L : Nat → LI} {G G2 : Nat → GI} {I : LI} (h : LNK nl st L G) (hq : st nl = q) (e : Ex G q G2) (l : q ≤ q2) (g : ∃ hh, hh ≤ 1 ∧ HG G2 q q2 0 hh) (i : LIok I) : LNK (nl + 1) (uF st (nl + 1) q2) (uF L nl I) G2 := by
  refine ⟨by rw [uF_n (by omega)]; exact h.1, fun x hx => ?_⟩
  by_cases z : x = nl
  · subst z
    rw [uF_s, uF_s, uF_n (by omega), hq]
    exact ⟨l, Nat.le_refl _, i, g⟩
  · obtain ⟨a, b, i2, hh, c1, c2⟩ := h.2 x (by omega)
    rw [uF_n (show x ≠ nl + 1 by omega), uF_n (show x + 1 ≠ nl + 1 by omega), uF_s, uF_n z]
    exact ⟨a, by omega, i2, hh, c1, c2.ext (fun y _ hy => e y (by omega))⟩
def RAl (c : CX) (i nt q : Nat) (G : Nat → GI) (nl : Nat) (st : Nat → Nat) (L : Nat → LI) (j nt2 q2 : Nat) (G2 : Nat → GI) (nl2 : Nat) (st2 : Nat → Nat) (L2 : Nat → LI) : Prop := ∀ d σ Q, 21 ≤ d → RS c σ i nt q G → RLn c σ nl st L → (∀ σ2, RS c σ2 j nt2 q2 G2 → RLn c σ2 nl2 st2 L2 → Fr (cL (crb c)) σ σ2 → atX11_orders_111 d Q σ2) → atX11_orders_90 d Q σ
def RAF (c : CX) (i nt q : Nat) (G : Nat → GI) (nl : Nat) (st : Nat → Nat) (L : Nat → LI) (j al : Nat) : Prop := ∀ d σ Q, 21 ≤ d → RS c σ i nt q G → RLn c σ nl st L → (∀ σ2, FZ c σ2 j al → Fr (cL (crb c)) σ σ2 → atX11_orders_111 d Q σ2) → atX11_orders_90 d Q σ
theorem ra_end {c : CX} {i nt q nl : Nat} {G : Nat → GI} {st : Nat → Nat} {L : Nat → LI} (hw : tW c i = 0) : RAl c i nt q G nl st L i nt q G nl st L := by
  intro d σ Q hd h hl k
  exact wX11_orders_90 d Q σ (by omega) ⟨fun y => absurd h.fk y, fun _ => ⟨fun _ => k σ h hl Fr.rf, fun y => absurd (h.tk.tok.1.mpr hw) y⟩⟩
theorem ra_line {c : CX} {i nt q nl : Nat} {G : Nat → GI} (d : Nat) (σ : HS) (Q : Option AV → HS → Prop) (hd : 21 ≤ d) (h : RS c σ i nt q G) (hw : tW c i ≠ 0) (k : MT (d - 1) mX11_readLine [vR 0 0] σ (fun r σ_38 => r = none ∧ atX11_orders_90 d Q σ_38)) : atX11_orders_90 d Q σ :=
  wX11_orders_90 d Q σ (by omega) ⟨fun y => absurd h.fk y, fun _ => ⟨fun y => absurd (h.tk.tok.1.mp y) hw, fun _ => k⟩⟩
theorem ra_step {c : CX} {i nt q nl j nt2 q2 j3 nt3 q3 nl3 : Nat} {G G2 G3 : Nat → GI} {st st2 st3 : Nat → Nat} {L L2 L3 : Nat → LI} (hw : tW c i ≠ 0) (r : RLi c i nt q G nl st L j nt2 q2 G2 st2 L2) (k : RAl c j nt2 q2 G2 (nl + 1) st2 L2 j3 nt3 q3 G3 nl3 st3 L3) : RAl c i nt q G nl st L j3 nt3 q3 G3 nl3 st3 L3 := by
  intro d σ Q hd h hl k'
  exact ra_line (nl := nl) d σ Q hd h hw (r (d - 1) σ _ (by omega) h hl (fun σ2 a b f => ⟨rfl, k d σ2 Q hd a b (fun σ3 a3 b3 f3 => k' σ3 a3 b3 (f.tr f3))⟩))
theorem ra_stepF {c : CX} {i nt q nl j nt2 q2 j3 al : Nat} {G G2 : Nat → GI} {st st2 : Nat → Nat} {L L2 : Nat → LI} (hw : tW c i ≠ 0) (r : RLi c i nt q G nl st L j nt2 q2 G2 st2 L2) (k : RAF c j nt2 q2 G2 (nl + 1) st2 L2 j3 al) : RAF c i nt q G nl st L j3 al := by
  intro d σ Q hd h hl k'
  exact ra_line (nl := nl) d σ Q hd h hw (r (d - 1) σ _ (by omega) h hl (fun σ2 a b f => ⟨rfl, k d σ2 Q hd a b (fun σ3 a3 f3 => k' σ3 a3 (f.tr f3))⟩))
theorem ra_fail {c : CX} {i nt q nl j al : Nat} {G : Nat → GI} {st : Nat → Nat} {L : Nat → LI} (hw : tW c i ≠ 0) (r : RLiF c i nt q G nl st L j al) : RAF c i nt q G nl st L j al := by
  intro d σ Q hd h hl k'
  exact ra_line (nl := nl) d σ Q hd h hw (r (d - 1) σ _ (by omega) h hl (fun σ2 z f => ⟨rfl, wX11_orders_90 d Q σ2 (by omega) ⟨fun _ => k' σ2 z f, fun y => absurd y z.ne⟩⟩))
theorem read_loop {c : CX} (d : Nat) (Q : Option AV → HS → Prop) (hd : 25 ≤ d) : ∀ f nl i nt q G st L σ, nl + f = 12 → CS c σ i nt q G → CLn c σ nl st L → st nl = q → LNK nl st L G →
    (∀ j nt2 q2 G2 nl2 st2 L2 σ2, CS c σ2 j nt2 q2 G2 → CLn c σ2 nl2 st2 L2 → nl2 ≤ 12 → st2 nl2 = q2 → LNK nl2 st2 L2 G2 → Fr (cCL (cdr c)) σ σ2 → tW c j = 0 → RAl c i nt q G nl st L j nt2 q2 G2 nl2 st2 L2 → atX4_read_65 d Q σ2 1) →
    (∀ j al σ2 x, CP c σ2 j → σ2.1 6 0 3 = nI al → (al = 0 ∨ (al = 1 ∧ tW c j = 3)) → Fr (cCL (cdr c)) σ σ2 → RAF c i nt q G nl st L j al → (x = 0 ∨ (x = 1 ∧ tW c j ≠ 0)) → atX4_read_65 d Q σ2 x) → atX4_read_36 d Q σ 1 (nI nl) := by
  intro f
  induction f with
  | zero =>
    intro nl i nt q G st L σ hf h hl hq ok kOK kF
    have e : nl = 12 := by omega
    subst e
    refine wX4_read_36 d Q σ _ _ (by omega) ⟨fun _ => ?_, fun y => absurd (by decide) y⟩
    by_cases w : tW c i = 0
    · exact kOK i nt q G 12 st L σ h hl (by omega) hq ok Fr.rf w (ra_end w)
    · exact kF i 0 σ 1 h.1 hl.2.1 (Or.inl rfl) Fr.rf (ra_fail w rl_13) (Or.inr ⟨rfl, w⟩)
  | succ f ih =>
    intro nl i nt q G st L σ hf h hl hq ok kOK kF
    refine wX4_read_36 d Q σ _ _ (by omega) ⟨fun y => absurd y (nI_ge (a := nl) (b := 12) (by omega) (by omega)), fun _ => ⟨fun y => absurd y (by decide), fun _ => ?_⟩⟩
    refine here_s (d - 1) σ _ h.1 ⟨_, rfl, ?_⟩
    have hr := h.1.1.rng h.1.2.2.1
    refine pk_eq (tW c i) 0 (fun w => kOK i nt q G nl st L σ h hl (by omega) hq ok Fr.rf w (ra_end w)) (fun w => ?_)
    refine line_c (d - 1) σ _ (by omega) h hl (by omega) hq (fun j nt2 q2 G2 I σ2 c2 l2 f2 I2 => ⟨_, rfl, ?_⟩) (fun j al σ2 c2 a2 ha f2 r2 => ⟨_, rfl, ?_⟩)
    · rintro _ rfl
      rw [nI_1]
      obtain ⟨e2, q02, g2, i2, r2⟩ := I2
      refine ih (nl + 1) j nt2 q2 G2 _ _ σ2 (by omega) c2 l2 uF_s (ok.step hq e2 q02 g2 i2) (fun j3 nt3 q3 G3 nl3 st3 L3 σ3 c3 l3 n3 s3 ok3 f3 w3 r3 => ?_) (fun j3 al σ3 x c3 a3 ha3 f3 r3 hx => ?_)
      · exact kOK j3 nt3 q3 G3 nl3 st3 L3 σ3 c3 l3 n3 s3 ok3 (f2.tr f3) w3 (ra_step w r2 r3)
      · exact kF j3 al σ3 x c3 a3 ha3 (f2.tr f3) (ra_stepF w r2 r3) hx
    · rintro _ rfl
      have k65 := kF j al σ2 0 c2 a2 ha f2 (ra_fail w r2) (Or.inl rfl)
      exact wX4_read_36 d Q σ2 _ _ (by omega) ⟨fun _ => k65, fun _ => ⟨fun _ => k65, fun y => absurd rfl y⟩⟩
theorem note_s {c : CX} {j al : Nat} (d : Nat) (σ : HS) (Q : Option AV → HS → Prop) (hd : 1 ≤ d) (h : CP c σ j) (ha : σ.1 6 0 3 = nI al) (hal : al = 0 ∨ (al = 1 ∧ tW c j = 3)) (k : Q none (up (up σ 6 0 6 (fkv c j al)) 6 0 7 (nI (tP c j)))) : MT d mX4_noteFault [vR 6 0] σ Q := by
  have hr := h.1.rng h.2.2.1
  have k32 : ∀ x, fkv c j al = x → atX4_noteFault_32 d Q (up σ 6 0 6 x) := by
    rintro _ rfl
    have h2 : CP c (up σ 6 0 6 (fkv c j al)) j := by
      obtain ⟨h1, ⟨z, z1, z2, z3, z4⟩, h3, h4, h5⟩ := h
      refine ⟨h1, ⟨z, z1, z2, by rw [up_ne (by decide)]; exact z3, fun j hj => ?_⟩, h3, by rw [up_f (by decide)]; exact h4, by rw [up_f (by decide)]; exact h5⟩
      obtain ⟨a, b, e⟩ := z4 j hj
      exact ⟨by rw [up_ne (by decide)]; exact a, by rw [up_ne (by decide)]; exact b, by rw [up_ne (by decide)]; exact e⟩
    obtain ⟨s1, s2, s3, s4⟩ := h2.sz
    refine wX4_noteFault_32 d Q _ ⟨fun y => absurd y s1, fun _ => ⟨s2, ?_⟩⟩
    rintro _ rfl
    rw [s3, s4.2.2]
    exact k
  refine wX4_noteFault d σ Q hd (here_s (d - 1) σ _ h ⟨_, rfl, And.symm (pk_eq (tW c j) 1 (fun w => ?_) (fun w => ?_))⟩)
  · rintro _ rfl
    refine k32 1 ?_
    unfold fkv
    rw [if_neg (by omega), if_pos w]
  · rw [ha]
    refine pk_eq al 0 (fun z => ?_) (fun z => ?_)
    · refine wX4_noteFault_29 d Q σ _ ?_
      rintro _ rfl
      refine k32 2 ?_
      unfold fkv
      rw [if_neg (by omega), if_neg w]
    · refine wX4_noteFault_29 d Q σ _ ?_
      rintro _ rfl
      refine k32 3 ?_
      unfold fkv
      rw [if_pos (by omega)]
/-- the fault of the text, in the class: its cells -/
theorem r65_F {c : CX} {j al : Nat} (d : Nat) (σ : HS) (x : Int32) (Q : Option AV → HS → Prop) (hd : 2 ≤ d) (h : CP c σ j) (ha : σ.1 6 0 3 = nI al) (hal : al = 0 ∨ (al = 1 ∧ tW c j = 3)) (hx : x = 0 ∨ (x = 1 ∧ tW c j ≠ 0)) (k : Q (some (vI (-1))) (up (up σ 6 0 6 (fkv c j al)) 6 0 7 (nI (tP c j)))) : atX4_read_65 d Q σ x := by
  have hr := h.1.rng h.2.2.1
  refine wX4_read_65 d Q σ _ (by omega) ⟨fun _ => note_s (d - 1) σ _ (by omega) h ha hal ⟨rfl, k⟩, fun y => ?_⟩
  have w : tW c j ≠ 0 := by
    rcases hx with e | e
    · exact absurd e y
    · exact e.2
  exact here_s (d - 1) σ _ h ⟨_, rfl, pk_eq (tW c j) 0 (fun z => absurd z w) (fun _ => note_s (d - 1) σ _ (by omega) h ha hal ⟨rfl, k⟩)⟩
def swp (σ : HS) (r dr : Nat) : HS := up (up (up (up σ 6 0 6 0) 6 0 7 (-1)) 6 0 4 (nI dr)) 6 0 5 (nI r)
theorem r65_S {c : CX} {j r nl : Nat} (d : Nat) (σ : HS) (Q : Option AV → HS → Prop) (hd : 2 ≤ d) (h : CP c σ j) (hw : tW c j = 0) (hr : σ.1 6 0 4 = nI r) (hr2 : r < 2) (hl : σ.1 7 (cdr c) 3 = nI nl) (k : Q (some (vI (nI nl))) (swp σ r (cdr c))) : atX4_read_65 d Q σ 1 := by
  have hdr := h.1.2.2.2
  refine wX4_read_65 d Q σ _ (by omega) ⟨fun y => absurd y (by decide), fun _ => here_s (d - 1) σ _ h ⟨_, rfl, pk_eq (tW c j) 0 (fun _ => ?_) (fun z => absurd hw z)⟩⟩
  rintro _ rfl _ rfl
  rw [up_f (show (4 : Nat) ≠ 7 by decide), up_f (show (4 : Nat) ≠ 6 by decide), up_f (show (5 : Nat) ≠ 7 by decide), up_f (show (5 : Nat) ≠ 6 by decide), hr, h.2.2.2.2, nI_clamp (by omega), nI_clamp (by omega)]
  refine ⟨hr2, hdr, ?_⟩
  rintro _ rfl _ rfl
  rw [up_f (show (4 : Nat) ≠ 5 by decide), up_same, nI_clamp (by omega)]
  refine ⟨hdr, ?_⟩
  rw [up_ne (show (7 : Nat) ≠ 6 by decide), up_ne (show (7 : Nat) ≠ 6 by decide), up_ne (show (7 : Nat) ≠ 6 by decide), up_ne (show (7 : Nat) ≠ 6 by decide), hl]
  exact k
