theorem one_br {c : CX} {oth i nt q j nt2 q2 : Nat} {G G2 : Nat → GI} (ho : oth < 7) (hw : tW c i = 40) (hj : tW c j = 41) (r : RRs c (oth + 1) 0 0 (i + 1) nt q G j nt2 q2 G2) : ROne c oth i nt q G (j + 1) nt2 q2 G2 := by
  intro d σ Q S hd h hs h0 hl k
  refine one_in d σ Q hd (by omega) (Or.inr ⟨hw, rfl⟩) h hs h0 hl (fun _ σ2 a2 s2 f2 => r d σ2 Q 4 S hd a2 (Or.inl rfl) s2 (by omega) (fun σ3 a3 s3 f3 => ?_)) (fun e => by omega)
  exact BL_close d σ3 Q (by omega) (by omega) a3 s3 h0 (by omega) (fun _ σ4 a4 s4 f4 => k σ4 a4 s4 ((f2.tr f3).tr f4)) (fun e => absurd hj e)
theorem one_brF1 {c : CX} {oth i nt q j : Nat} {G : Nat → GI} (ho : oth < 7) (hw : tW c i = 40) (r : RRsF c (oth + 1) 0 0 (i + 1) nt q G j) : ROneF c oth i nt q G j := by
  intro d σ Q S hd h hs h0 hl k
  exact one_in d σ Q hd (by omega) (Or.inr ⟨hw, rfl⟩) h hs h0 hl (fun _ σ2 a2 s2 f2 => r d σ2 Q 4 S hd a2 (Or.inl rfl) s2 (by omega) (fun σ3 a3 f3 => k σ3 a3 (f2.tr f3))) (fun e => by omega)
theorem one_brF2 {c : CX} {oth i nt q j nt2 q2 : Nat} {G G2 : Nat → GI} (ho : oth < 7) (hw : tW c i = 40) (hj : tW c j ≠ 41) (hj2 : tW c j ≠ 10 ∧ tW c j ≠ 11) (r : RRs c (oth + 1) 0 0 (i + 1) nt q G j nt2 q2 G2) : ROneF c oth i nt q G j := by
  intro d σ Q S hd h hs h0 hl k
  refine one_in d σ Q hd (by omega) (Or.inr ⟨hw, rfl⟩) h hs h0 hl (fun _ σ2 a2 s2 f2 => r d σ2 Q 4 S hd a2 (Or.inl rfl) s2 (by omega) (fun σ3 a3 s3 f3 => ?_)) (fun e => by omega)
  exact BL_close d σ3 Q (by omega) hj2 a3 s3 h0 (by omega) (fun e => absurd e hj) (fun _ σ4 a4 f4 => k σ4 a4 ((f2.tr f3).tr f4))
theorem rr_fin {c : CX} {oth b o i nt q j nt1 q1 : Nat} {G G1 : Nat → GI} (ho : oth ≤ 7) (hj : tW c j ≠ 10 ∧ tW c j ≠ 11) (hq : q1 + 2 < 900) (r : ROne c oth i nt q G j nt1 q1 G1) : RRs c oth b o i nt q G j nt1 (q1 + min o 1 + min b 1) (gO b (q1 + min o 1) (gA o q1 G1)) := by
  intro d σ Q x T hd h hx hs hl k
  have l := stk_len b o (x :: T)
  rw [List.length_cons] at l
  refine r d σ Q _ hd h hs (by omega) (by omega) (fun σ2 a2 s2 f2 => ?_)
  refine BL_and d _ σ2 Q (by omega) (by omega) a2 s2 (by rw [List.length_cons]; omega) (fun σ3 a3 s3 f3 => ?_)
  exact BL_or d _ σ3 Q (by omega) hj.2 (by omega) a3 s3 (by rw [List.length_cons]; omega) (fun σ4 a4 s4 f4 => k σ4 a4 s4 ((f2.tr f3).tr f4))
theorem rr_push {c : CX} {oth b o i nt q j nt1 q1 : Nat} {G G1 : Nat → GI} (ho : oth ≤ 7) (hq : q1 + 2 < 900) (r : ROne c oth i nt q G j nt1 q1 G1) (d : Nat) (σ : HS) (Q : Option AV → HS → Prop) (x : Nat) (T : List Nat) (hd : 14 ≤ d) (h : RS c σ i nt q G) (hx : x = 4 ∨ x = 5) (hs : SK σ (stk b o (x :: T)) oth) (hl : T.length ≤ 3 * oth)
    (hw : tW c j = 11 ∨ tW c j = 10)
    (k : tW c j = 11 → ∀ σ2, RS c σ2 (j + 1) nt1 (q1 + min o 1) (gA o q1 G1) → SK σ2 (stk b (o + 1) (x :: T)) oth → Fr (cE (crb c)) σ σ2 → atX11_e_17 d Q σ2 1)
    (k2 : tW c j = 10 → ∀ σ2, RS c σ2 (j + 1) nt1 (q1 + min o 1 + min b 1) (gO b (q1 + min o 1) (gA o q1 G1)) → SK σ2 (stk (b + 1) 0 (x :: T)) oth → Fr (cE (crb c)) σ σ2 → atX11_e_17 d Q σ2 1) : atX11_e_17 d Q σ 1 := by
  have l := stk_len b o (x :: T)
  rw [List.length_cons] at l
  refine r d σ Q _ hd h hs (by omega) (by omega) (fun σ2 a2 s2 f2 => ?_)
  refine BL_and d _ σ2 Q (by omega) (by omega) a2 s2 (by rw [List.length_cons]; omega) (fun σ3 a3 s3 f3 => ?_)
  rcases hw with e | e
  · have er : rkN (tW c j) = 2 := by
      unfold rkN
      rw [if_pos e]
    have es : stk b (o + 1) (x :: T) = 2 :: stk b 0 (x :: T) := by
      unfold stk
      rw [if_pos (Nat.succ_pos o)]
      rfl
    by_cases hb : 0 < b
    · have e1 : stk b 0 (x :: T) = 1 :: x :: T := by
        unfold stk
        rw [if_pos hb]
        rfl
      rw [e1] at s3
      refine BL_push d σ3 Q (by omega) (by omega) (by omega) (Or.inr e) a3 s3 (by rw [List.length_cons]; omega) (fun σ4 a4 s4 f4 => k e σ4 a4 ?_ ((f2.tr f3).tr f4))
      rw [es, e1, ← er]
      exact s4
    · have e1 : stk b 0 (x :: T) = x :: T := by
        unfold stk
        rw [if_neg hb]
        rfl
      rw [e1] at s3
      refine BL_push d σ3 Q (by omega) (by omega) (by omega) (Or.inr e) a3 s3 (by omega) (fun σ4 a4 s4 f4 => k e σ4 a4 ?_ ((f2.tr f3).tr f4))
      rw [es, e1, ← er]
      exact s4
  · have er : rkN (tW c j) = 1 := by
      unfold rkN
      rw [if_neg (by omega), if_pos e]
    have es : stk (b + 1) 0 (x :: T) = 1 :: x :: T := by
      unfold stk
      rw [if_pos (Nat.succ_pos b)]
      rfl
    refine BL_or d _ σ3 Q (by omega) (by omega) (by omega) a3 s3 (by rw [List.length_cons]; omega) (fun σ4 a4 s4 f4 => ?_)
    refine BL_push d σ4 Q (by omega) (by omega) (by omega) (Or.inl e) a4 s4 (by omega) (fun σ5 a5 s5 f5 => k2 e σ5 a5 ?_ (((f2.tr f3).tr f4).tr f5))
    rw [es, ← er]
    exact s5
theorem rr_fail {c : CX} {oth b o i nt q j : Nat} {G : Nat → GI} (r : ROneF c oth i nt q G j) : RRsF c oth b o i nt q G j := by
  intro d σ Q x T hd h hx hs hl k
  have l := stk_len b o (x :: T)
  rw [List.length_cons] at l
  exact r d σ Q _ hd h hs (by omega) (by omega) k
/-! conditions: both sides -/
theorem gA_ex {o q : Nat} {G : Nat → GI} : Ex G q (gA o q G) := by
  unfold gA
  by_cases h : 0 < o
  · rw [if_pos h]; exact Ex.uF
  · rw [if_neg h]; exact Ex.rf
theorem gO_ex {o q : Nat} {G : Nat → GI} : Ex G q (gO o q G) := by
  unfold gO
  by_cases h : 0 < o
  · rw [if_pos h]; exact Ex.uF
  · rw [if_neg h]; exact Ex.rf
theorem gA_hg {o q h : Nat} {G : Nat → GI} (hh : 1 ≤ h) : HG (gA o q G) q (q + min o 1) (h + min o 1) h := by
  unfold gA
  by_cases z : 0 < o
  · rw [if_pos z, Nat.min_eq_right z]; exact HG.one (mv_two (x := 38) (by omega) hh)
  · rw [if_neg z, show min o 1 = 0 by omega]; exact HG.rf
theorem gO_hg {o q h : Nat} {G : Nat → GI} (hh : 1 ≤ h) : HG (gO o q G) q (q + min o 1) (h + min o 1) h := by
  unfold gO
  by_cases z : 0 < o
  · rw [if_pos z, Nat.min_eq_right z]; exact HG.one (mv_two (x := 124) (by omega) hh)
  · rw [if_neg z, show min o 1 = 0 by omega]; exact HG.rf
def EitI (c : CX) (oth b o i nt q : Nat) (G : Nat → GI) (j nt2 q2 : Nat) (G2 : Nat → GI) : Prop := Ex G q G2 ∧ nt + 2 ≤ nt2 ∧ q ≤ q2 ∧ 2 * (q2 - q) + 2 ≤ (11 - oth) * (nt2 - nt) + 2 * (min o 1 + min b 1) ∧ (∀ h, h ≤ 2 * oth → HG G2 q q2 (h + (min o 1 + min b 1)) (h + 1)) ∧ (tW c j ≠ 10 ∧ tW c j ≠ 11) ∧ RRs c oth b o i nt q G j nt2 q2 G2
def C1 (c : CX) (oth : Nat) : Prop := ∀ d σ Q i nt q G, 2 * (8 - oth) + 6 ≤ d → CS c σ i nt q G → (∀ j nt2 q2 G2 σ2, CS c σ2 j nt2 q2 G2 → Fr (cC (cdr c)) σ σ2 → OneI c oth i nt q G j nt2 q2 G2 → Q (some (vI 1)) σ2) → (∀ j σ2, CP c σ2 j → Fr (cC (cdr c)) σ σ2 → ROneF c oth i nt q G j → Q (some (vI 0)) σ2) → MT d mX4_readOne [vR 6 0, vI (nI oth)] σ Q
def C2 (c : CX) (oth : Nat) : Prop := ∀ d σ Q i nt q G, 2 * (8 - oth) + 7 ≤ d → CS c σ i nt q G → (∀ j nt2 q2 G2 σ2, CS c σ2 j nt2 q2 G2 → Fr (cC (cdr c)) σ σ2 → EitI c oth 0 0 i nt q G j nt2 q2 G2 → Q (some (vI 1)) σ2) → (∀ j σ2, CP c σ2 j → Fr (cC (cdr c)) σ σ2 → RRsF c oth 0 0 i nt q G j → Q (some (vI 0)) σ2) → MT d mX4_readEither [vR 6 0, vI (nI oth)] σ Q
theorem c2_loop {c : CX} {oth : Nat} (ho : oth ≤ 7) (h1 : C1 c oth) (d : Nat) (Q : Option AV → HS → Prop) (hd : 2 * (8 - oth) + 7 ≤ d) : ∀ f b o i nt q G σ, 80 - nt < f → 2 * (b + o) ≤ nt → 2 * q + 2 * (min o 1 + min b 1) ≤ 11 * nt → CS c σ i nt q G →
    (∀ j nt2 q2 G2 σ2, CS c σ2 j nt2 q2 G2 → Fr (cC (cdr c)) σ σ2 → EitI c oth b o i nt q G j nt2 q2 G2 → Q (some (vI 1)) σ2) →
    (∀ j σ2, CP c σ2 j → Fr (cC (cdr c)) σ σ2 → RRsF c oth b o i nt q G j → Q (some (vI 0)) σ2) → atX4_readEither_10 d Q σ (nI oth) (nI b) (nI o) := by
  intro f
  induction f with
  | zero =>
    intro b o i nt q G σ hf
    omega
  | succ f ih =>
    intro b o i nt q G σ hf hbo hp h hS hF
    have hnt := h.2.1.2
    refine wX4_readEither_10 d Q σ _ _ _ (by omega) ⟨fun z => absurd z (nI_ge (a := o) (b := 80) (by omega) (by omega)), fun _ => ?_⟩
    refine h1 (d - 1) σ _ i nt q G (by omega) h (fun j nt1 q1 G1 σ1 c1 f1 I1 => ⟨_, rfl, fun _ => ?_, fun y => absurd y (by decide)⟩) (fun j σ1 c1 f1 r1 => ⟨_, rfl, fun y => absurd rfl y, fun _ => hF j σ1 c1 f1 (rr_fail r1)⟩)
    obtain ⟨e1, t1, q01, b1, g1, r1⟩ := I1
    have hnt1 := c1.2.1.2
    have K11 : (11 - oth) * (nt1 - nt) ≤ 11 * (nt1 - nt) := Nat.mul_le_mul_right _ (by omega)
    have k58 : ∀ σ3, CS c σ3 j nt1 (q1 + min o 1 + min b 1) (gO b (q1 + min o 1) (gA o q1 G1)) → Fr (cC (cdr c)) σ σ3 → tW c j ≠ 11 → MT (d - 1) mX4_accept [vR 6 0, vI 10] σ3 (fun r σ_35 => ∃ r_37, r = some (vI r_37) ∧ ((¬ r_37 = 0 → (∀ x_41 : Int32, x_41 = nI b + 1 → atX4_readEither_2 d Q σ_35 (nI oth) x_41)) ∧ (r_37 = 0 → Q (some (vI 1)) σ_35))) := by
      intro σ3 c3 f3 w11
      refine acc_s (d - 1) 10 _ _ c3.1 (by omega) (fun w => ⟨_, rfl, fun _ => ?_, fun y => absurd y (by decide)⟩) (fun w => ⟨_, rfl, fun y => absurd rfl y, fun _ => ?_⟩)
      · rintro _ rfl
        rw [nI_1]
        have c4 := c3.at (by omega)
        refine wX4_readEither_2 d Q _ _ _ ⟨fun z => absurd z (nI_ge (a := b + 1) (b := 80) (by omega) (by omega)), fun _ => ?_⟩
        refine ih (b + 1) 0 (j + 1) nt1 _ _ _ (by omega) (by omega) (by omega) c4 (fun j2 nt2 q2 G2 σ5 c5 f5 I5 => ?_) (fun j2 σ5 c5 f5 r5 => ?_)
        · obtain ⟨e5, t5, q05, b5, g5, w5, r5⟩ := I5
          have K : (11 - oth) * (nt2 - nt) = (11 - oth) * (nt1 - nt) + (11 - oth) * (nt2 - nt1) := by rw [← Nat.mul_add, show nt2 - nt = nt1 - nt + (nt2 - nt1) by omega]
          refine hS j2 nt2 q2 G2 σ5 c5 ((f3.tr upAt_fr).tr f5) ⟨((e1.tr gA_ex q01).tr gO_ex (by omega)).tr e5 (by omega), by omega, by omega, by omega, fun hh hl => ?_, w5, ?_⟩
          · have ge : ∀ x, x < q1 + min o 1 + min b 1 → G2 x = gO b (q1 + min o 1) (gA o q1 G1) x := e5
            have a1 := (g1 (hh + (min o 1 + min b 1)) (by omega)).ext (G2 := G2) (fun x _ y => by rw [ge x (by omega), gO_ex x (by omega), gA_ex x (by omega)])
            have a2 := (gA_hg (o := o) (q := q1) (h := hh + 1 + min b 1) (G := G1) (by omega)).ext (G2 := G2) (fun x _ y => by rw [ge x (by omega), gO_ex x (by omega)])
            have a3 := (gO_hg (o := b) (q := q1 + min o 1) (h := hh + 1) (G := gA o q1 G1) (by omega)).ext (G2 := G2) (fun x _ y => ge x (by omega))
            have a4 := g5 hh hl
            rw [show hh + (min o 1 + min b 1) + 1 = hh + 1 + min b 1 + min o 1 by omega] at a1
            rw [show min 0 1 + min (b + 1) 1 = 1 by omega] at a4
            exact ((a1.tr a2 (by omega) (by omega)).tr a3 (by omega) (by omega)).tr a4 (by omega) (by omega)
          · intro d' σ' Q' x T hd' h' hx hs hl k
            exact rr_push ho (by have := c3.2.2.1.2; omega) r1 d' σ' Q' x T hd' h' hx hs hl (Or.inr w) (fun e => by omega) (fun _ σ6 a6 s6 f6 => r5 d' σ6 Q' x T hd' a6 hx s6 hl (fun σ7 a7 s7 f7 => k σ7 a7 s7 (f6.tr f7)))
        · refine hF j2 σ5 c5 ((f3.tr upAt_fr).tr f5) ?_
          intro d' σ' Q' x T hd' h' hx hs hl k
          exact rr_push ho (by have := c3.2.2.1.2; omega) r1 d' σ' Q' x T hd' h' hx hs hl (Or.inr w) (fun e => by omega) (fun _ σ6 a6 s6 f6 => r5 d' σ6 Q' x T hd' a6 hx s6 hl (fun σ7 a7 f7 => k σ7 a7 (f6.tr f7)))
      · refine hS j nt1 _ _ σ3 c3 f3 ⟨(e1.tr gA_ex q01).tr gO_ex (by omega), t1, by omega, by omega, fun hh hl => ?_, ⟨w, w11⟩, rr_fin ho ⟨w, w11⟩ (by have := c3.2.2.1.2; omega) r1⟩
        have a1 := (g1 (hh + (min o 1 + min b 1)) (by omega)).ext (G2 := gO b (q1 + min o 1) (gA o q1 G1)) (fun x _ y => by rw [gO_ex x (by omega), gA_ex x (by omega)])
        have a2 := (gA_hg (o := o) (q := q1) (h := hh + 1 + min b 1) (G := G1) (by omega)).ext (G2 := gO b (q1 + min o 1) (gA o q1 G1)) (fun x _ y => by rw [gO_ex x (by omega)])
        have a3 := gO_hg (o := b) (q := q1 + min o 1) (h := hh + 1) (G := gA o q1 G1) (by omega)
        rw [show hh + (min o 1 + min b 1) + 1 = hh + 1 + min b 1 + min o 1 by omega] at a1
        exact (a1.tr a2 (by omega) (by omega)).tr a3 (by omega) (by omega)
    have k40 : ∀ σ2, CS c σ2 j nt1 (q1 + min o 1) (gA o q1 G1) → Fr (cC (cdr c)) σ σ2 → atX4_readEither_40 d Q σ2 (nI oth) (nI b) (nI o) := by
      intro σ2 c2 f2
      refine wX4_readEither_40 d Q σ2 _ _ _ (by omega) (acc_s (d - 1) 11 _ _ c2.1 (by omega) (fun w => ⟨_, rfl, fun _ => ?_, fun y => absurd y (by decide)⟩) (fun w => ⟨_, rfl, fun y => absurd rfl y, fun _ => ?_⟩))
      · rintro _ rfl
        rw [nI_1]
        have c4 := c2.at (by omega)
        refine ih b (o + 1) (j + 1) nt1 _ _ _ (by omega) (by omega) (by omega) c4 (fun j2 nt2 q2 G2 σ5 c5 f5 I5 => ?_) (fun j2 σ5 c5 f5 r5 => ?_)
        · obtain ⟨e5, t5, q05, b5, g5, w5, r5⟩ := I5
          have K : (11 - oth) * (nt2 - nt) = (11 - oth) * (nt1 - nt) + (11 - oth) * (nt2 - nt1) := by rw [← Nat.mul_add, show nt2 - nt = nt1 - nt + (nt2 - nt1) by omega]
          refine hS j2 nt2 q2 G2 σ5 c5 ((f2.tr upAt_fr).tr f5) ⟨(e1.tr gA_ex q01).tr e5 (by omega), by omega, by omega, by omega, fun hh hl => ?_, w5, ?_⟩
          · have ge : ∀ x, x < q1 + min o 1 → G2 x = gA o q1 G1 x := e5
            have a1 := (g1 (hh + (min o 1 + min b 1)) (by omega)).ext (G2 := G2) (fun x _ y => by rw [ge x (by omega), gA_ex x (by omega)])
            have a2 := (gA_hg (o := o) (q := q1) (h := hh + 1 + min b 1) (G := G1) (by omega)).ext (G2 := G2) (fun x _ y => ge x (by omega))
            have a4 := g5 hh hl
            rw [show hh + (min o 1 + min b 1) + 1 = hh + 1 + min b 1 + min o 1 by omega] at a1
            rw [show hh + (min (o + 1) 1 + min b 1) = hh + 1 + min b 1 by omega] at a4
            exact (a1.tr a2 (by omega) (by omega)).tr a4 (by omega) (by omega)
          · intro d' σ' Q' x T hd' h' hx hs hl k
            exact rr_push ho (by have := c2.2.2.1.2; omega) r1 d' σ' Q' x T hd' h' hx hs hl (Or.inl w) (fun _ σ6 a6 s6 f6 => r5 d' σ6 Q' x T hd' a6 hx s6 hl (fun σ7 a7 s7 f7 => k σ7 a7 s7 (f6.tr f7))) (fun e => by omega)
        · refine hF j2 σ5 c5 ((f2.tr upAt_fr).tr f5) ?_
          intro d' σ' Q' x T hd' h' hx hs hl k
          exact rr_push ho (by have := c2.2.2.1.2; omega) r1 d' σ' Q' x T hd' h' hx hs hl (Or.inl w) (fun _ σ6 a6 s6 f6 => r5 d' σ6 Q' x T hd' a6 hx s6 hl (fun σ7 a7 f7 => k σ7 a7 (f6.tr f7))) (fun e => by omega)
      · refine wX4_readEither_58 d Q σ2 _ _ (by omega) (pk_le b 0 (fun z => ?_) (fun z => ?_))
        · refine k58 σ2 ?_ f2 w
          rw [show min b 1 = 0 by omega]
          unfold gO
          rw [if_neg (by omega)]
          exact c2
        · rw [c2.1.dr]
          refine ⟨c2.1.1.2.2.2, add_s (d - 1) 10 0 (124, 0, 0) σ2 _ c2 (by omega) (by omega) (by omega) (gOK_op (by omega)) rfl (fun σ3 c3 f3 => ⟨rfl, k58 σ3 ?_ (f2.tr f3) w⟩)⟩
          rw [show min b 1 = 1 by omega]
          unfold gO
          rw [if_pos z]
          exact c3
    refine pk_le o 0 (fun z => ?_) (fun z => ?_)
    · refine k40 σ1 ?_ f1
      rw [show min o 1 = 0 by omega]
      unfold gA
      rw [if_neg (by omega)]
      exact c1
    · rw [c1.1.dr]
      refine ⟨c1.1.1.2.2.2, add_s (d - 1) 11 0 (38, 0, 0) σ1 _ c1 (by omega) (by omega) (by omega) (gOK_op (by omega)) rfl (fun σ3 c3 f3 => ⟨rfl, k40 σ3 ?_ (f1.tr f3)⟩)⟩
      rw [show min o 1 = 1 by omega]
      unfold gA
      rw [if_pos z]
      exact c3
theorem c2_of {c : CX} {oth : Nat} (ho : oth ≤ 7) (h1 : C1 c oth) : C2 c oth := by
  intro d σ Q i nt q G hd h hS hF
  have hq := h.2.2.1.2
  refine wX4_readEither d _ σ Q (wX4_readEither_2 d Q σ _ _ ⟨fun z => absurd z (by decide), fun _ => ?_⟩)
  exact c2_loop ho h1 d Q hd 81 0 0 i nt q G σ (by omega) (by omega) (by omega) h hS hF
