/-! conditions: the reference's side -/
def ROne (c : CX) (oth i nt q : Nat) (G : Nat → GI) (j nt2 q2 : Nat) (G2 : Nat → GI) : Prop := ∀ d σ Q S, 14 ≤ d → RS c σ i nt q G → SK σ S oth → 0 < S.length → S.length ≤ 3 * oth + 3 → (∀ σ2, RS c σ2 j nt2 q2 G2 → SK σ2 S oth → Fr (cE (crb c)) σ σ2 → BL d Q σ2 (tW c j)) → atX11_e_17 d Q σ 1
def ROneF (c : CX) (oth i nt q : Nat) (G : Nat → GI) (j : Nat) : Prop := ∀ d σ Q S, 14 ≤ d → RS c σ i nt q G → SK σ S oth → 0 < S.length → S.length ≤ 3 * oth + 3 → (∀ σ2, RF c σ2 j → Fr (cE (crb c)) σ σ2 → Q none σ2) → atX11_e_17 d Q σ 1
def OneI (c : CX) (oth i nt q : Nat) (G : Nat → GI) (j nt2 q2 : Nat) (G2 : Nat → GI) : Prop := Ex G q G2 ∧ nt + 2 ≤ nt2 ∧ q ≤ q2 ∧ 2 * (q2 - q) + 2 ≤ (11 - oth) * (nt2 - nt) ∧ (∀ h, h ≤ 2 * oth + 2 → HG G2 q q2 h (h + 1)) ∧ ROne c oth i nt q G j nt2 q2 G2
/-- up to the sign between two sums -/
theorem one_start {c : CX} {i nt q oth : Nat} {G : Nat → GI} {S : List Nat} (d : Nat) (σ : HS) (Q : Option AV → HS → Prop) (hd : 14 ≤ d) (hw : tW c i ≠ 12 ∧ tW c i ≠ 40) (h : RS c σ i nt q G) (hs : SK σ S oth) (h0 : 0 < S.length) (hl : S.length < 60)
    (k : MT (d - 1 - 1) mX11_readSum [vR 0 0] σ (fun r σ_10 => r = none ∧ ((¬ (σ_10.1 0 0 13 = 0) → atX11_one_108 (d - 1) (BQ d Q) σ_10) ∧ ((σ_10.1 0 0 13 = 0) → (MT (d - 1 - 1) mX11_is [vR 0 0, vI 60] σ_10 (fun r σ_15 => ∃ r_17, r = some (vI r_17) ∧ ((¬ r_17 = 0 → atX11_one_108 (d - 1) (BQ d Q) σ_15) ∧ (r_17 = 0 → (MT (d - 1 - 1) mX11_is [vR 0 0, vI 62] σ_15 (fun r σ_21 => ∃ r_23, r = some (vI r_23) ∧ ((¬ r_23 = 0 → atX11_one_108 (d - 1) (BQ d Q) σ_21) ∧ (r_23 = 0 → (MT (d - 1 - 1) mX11_is [vR 0 0, vI 61] σ_21 (fun r σ_27 => ∃ r_29, r = some (vI r_29) ∧ ((¬ r_29 = 0 → atX11_one_108 (d - 1) (BQ d Q) σ_27) ∧ (r_29 = 0 → (MT (d - 1 - 1) mX11_wrong [vR 0 0] σ_27 (fun r σ_33 => r = none ∧ atX11_one_108 (d - 1) (BQ d Q) σ_33)))))))))))))))))) : atX11_e_17 d Q σ 1 := by
  refine el_one d σ Q (by omega) h hs h0 hl (wX11_one (d - 1) σ _ (by omega) (h.is (d - 1 - 1) 40 σ _ (by omega) (by omega) (by omega) (fun z => absurd z hw.2) (fun _ => ⟨_, rfl, fun y => absurd rfl y, fun _ => ?_⟩)))
  rw [h.tk.w12]
  exact ⟨fun _ => k, fun z => absurd z hw.1⟩
theorem one_sign {c : CX} {j nt q : Nat} {G : Nat → GI} (d : Nat) (σ : HS) (Q : Option AV → HS → Prop) (hd : 4 ≤ d) (h : RS c σ j nt q G) (k : atX11_one_108 (d - 1) (BQ d Q) σ) (hw : tW c j = 60 ∨ tW c j = 61 ∨ tW c j = 62) :
    (¬ (σ.1 0 0 13 = 0) → atX11_one_108 (d - 1) (BQ d Q) σ) ∧ ((σ.1 0 0 13 = 0) → (MT (d - 1 - 1) mX11_is [vR 0 0, vI 60] σ (fun r σ_15 => ∃ r_17, r = some (vI r_17) ∧ ((¬ r_17 = 0 → atX11_one_108 (d - 1) (BQ d Q) σ_15) ∧ (r_17 = 0 → (MT (d - 1 - 1) mX11_is [vR 0 0, vI 62] σ_15 (fun r σ_21 => ∃ r_23, r = some (vI r_23) ∧ ((¬ r_23 = 0 → atX11_one_108 (d - 1) (BQ d Q) σ_21) ∧ (r_23 = 0 → (MT (d - 1 - 1) mX11_is [vR 0 0, vI 61] σ_21 (fun r σ_27 => ∃ r_29, r = some (vI r_29) ∧ ((¬ r_29 = 0 → atX11_one_108 (d - 1) (BQ d Q) σ_27) ∧ (r_29 = 0 → (MT (d - 1 - 1) mX11_wrong [vR 0 0] σ_27 (fun r σ_33 => r = none ∧ atX11_one_108 (d - 1) (BQ d Q) σ_33))))))))))))))) := by
  refine ⟨fun _ => k, fun _ => ?_⟩
  refine h.is (d - 1 - 1) 60 σ _ (by omega) (by omega) (by omega) (fun z => ⟨_, rfl, fun _ => k, fun y => absurd y (by decide)⟩) (fun z0 => ⟨_, rfl, fun y => absurd rfl y, fun _ => ?_⟩)
  refine h.is (d - 1 - 1) 62 σ _ (by omega) (by omega) (by omega) (fun z => ⟨_, rfl, fun _ => k, fun y => absurd y (by decide)⟩) (fun z1 => ⟨_, rfl, fun y => absurd rfl y, fun _ => ?_⟩)
  exact h.is (d - 1 - 1) 61 σ _ (by omega) (by omega) (by omega) (fun z => ⟨_, rfl, fun _ => k, fun y => absurd y (by decide)⟩) (fun z2 => by omega)
theorem one_cmp {c : CX} {oth i nt q j nt1 q1 j2 nt2 q2 w0 : Nat} {G G1 G2 : Nat → GI} (ho : oth ≤ 7) (hw : tW c i ≠ 12 ∧ tW c i ≠ 40) (r1 : RSum c i nt q G j nt1 q1 G1) (hj : tW c j = w0) (hw0 : w0 = 60 ∨ w0 = 61 ∨ w0 = 62) (r2 : RSum c (j + 1) nt1 q1 G1 j2 nt2 q2 G2) (hq : q2 < 900) : ROne c oth i nt q G j2 nt2 (q2 + 1) (uF G2 q2 (w0, 0, 0)) := by
  intro d σ Q S hd h hs h0 hl k
  refine one_start d σ Q hd hw h hs h0 (by omega) (r1 (d - 1 - 1) σ _ (by omega) h (fun σ1 a1 b1 => ⟨rfl, one_sign d σ1 Q (by omega) a1 ?_ (by omega)⟩))
  refine wX11_one_108 (d - 1) (BQ d Q) σ1 (by omega) ⟨fun _ => ?_, fun y => absurd a1.fk y⟩
  refine a1.sign (d - 1 - 1) σ1 _ (by omega) ⟨_, rfl, ?_⟩
  refine next_s (d - 1 - 1) σ1 _ (by omega) a1 (by omega) (fun σ2 a2 b2 => ⟨rfl, ?_⟩)
  refine r2 (d - 1 - 1) σ2 _ (by omega) a2 (fun σ3 a3 b3 => ⟨rfl, fun y => absurd a3.fk y, fun _ => ?_⟩)
  rw [hj]
  refine step_s (d - 1 - 1) (w0, 0, 0) 0 0 σ3 _ a3 hq (fun _ => rfl) (fun _ => rfl) (fun σ4 a4 b4 => ⟨rfl, _, rfl, ?_⟩)
  have f4 := ((b1.tr b2.NT).tr b3).tr b4
  exact el_behind d σ4 Q (by omega) a4 (hs.fr f4) h0 (by omega) (k σ4 a4 (hs.fr f4) f4.TE)
theorem one_cmpF1 {c : CX} {oth i nt q j : Nat} {G : Nat → GI} (ho : oth ≤ 7) (hw : tW c i ≠ 12 ∧ tW c i ≠ 40) (r1 : RSumF c i nt q G j) : ROneF c oth i nt q G j := by
  intro d σ Q S hd h hs h0 hl k
  refine one_start d σ Q hd hw h hs h0 (by omega) (r1 (d - 1 - 1) σ _ (by omega) h (fun σ1 a1 b1 => ⟨rfl, fun _ => ?_, fun y => absurd y a1.ne⟩))
  exact wX11_one_108 (d - 1) (BQ d Q) σ1 (by omega) ⟨fun y => absurd y a1.ne, fun _ => ⟨_, rfl, el_fail d _ σ1 Q (by omega) a1 (k σ1 a1 b1.TE)⟩⟩
theorem one_cmpF2 {c : CX} {oth i nt q j nt1 q1 : Nat} {G G1 : Nat → GI} (ho : oth ≤ 7) (hw : tW c i ≠ 12 ∧ tW c i ≠ 40) (r1 : RSum c i nt q G j nt1 q1 G1) (hj : tW c j ≠ 60 ∧ tW c j ≠ 61 ∧ tW c j ≠ 62) : ROneF c oth i nt q G j := by
  intro d σ Q S hd h hs h0 hl k
  refine one_start d σ Q hd hw h hs h0 (by omega) (r1 (d - 1 - 1) σ _ (by omega) h (fun σ1 a1 b1 => ⟨rfl, fun y => absurd a1.fk y, fun _ => ?_⟩))
  refine a1.is (d - 1 - 1) 60 σ1 _ (by omega) (by omega) (by omega) (fun z => absurd z hj.1) (fun z0 => ⟨_, rfl, fun y => absurd rfl y, fun _ => ?_⟩)
  refine a1.is (d - 1 - 1) 62 σ1 _ (by omega) (by omega) (by omega) (fun z => absurd z hj.2.2) (fun z0 => ⟨_, rfl, fun y => absurd rfl y, fun _ => ?_⟩)
  refine a1.is (d - 1 - 1) 61 σ1 _ (by omega) (by omega) (by omega) (fun z => absurd z hj.2.1) (fun z0 => ⟨_, rfl, fun y => absurd rfl y, fun _ => ?_⟩)
  refine wrong_s (d - 1 - 1) σ1 _ (by omega) a1 (fun σ2 a2 b2 => ⟨rfl, ?_⟩)
  exact wX11_one_108 (d - 1) (BQ d Q) σ2 (by omega) ⟨fun y => absurd y a2.ne, fun _ => ⟨_, rfl, el_fail d _ σ2 Q (by omega) a2 (k σ2 a2 (b1.tr b2).TE)⟩⟩
theorem one_cmpF3 {c : CX} {oth i nt q j nt1 q1 j2 : Nat} {G G1 : Nat → GI} (ho : oth ≤ 7) (hw : tW c i ≠ 12 ∧ tW c i ≠ 40) (r1 : RSum c i nt q G j nt1 q1 G1) (hj : tW c j = 60 ∨ tW c j = 61 ∨ tW c j = 62) (r2 : RSumF c (j + 1) nt1 q1 G1 j2) : ROneF c oth i nt q G j2 := by
  intro d σ Q S hd h hs h0 hl k
  refine one_start d σ Q hd hw h hs h0 (by omega) (r1 (d - 1 - 1) σ _ (by omega) h (fun σ1 a1 b1 => ⟨rfl, one_sign d σ1 Q (by omega) a1 ?_ hj⟩))
  refine wX11_one_108 (d - 1) (BQ d Q) σ1 (by omega) ⟨fun _ => ?_, fun y => absurd a1.fk y⟩
  refine a1.sign (d - 1 - 1) σ1 _ (by omega) ⟨_, rfl, ?_⟩
  refine next_s (d - 1 - 1) σ1 _ (by omega) a1 (by omega) (fun σ2 a2 b2 => ⟨rfl, ?_⟩)
  refine r2 (d - 1 - 1) σ2 _ (by omega) a2 (fun σ3 a3 b3 => ⟨rfl, fun _ => ⟨_, rfl, el_fail d _ σ3 Q (by omega) a3 (k σ3 a3 ((b1.tr b2.NT).tr b3).TE)⟩, fun y => absurd y a3.ne⟩)
/-- a 'not' or a bracket: one deeper -/
theorem one_in {c : CX} {oth i nt q x : Nat} {G : Nat → GI} {S : List Nat} (d : Nat) (σ : HS) (Q : Option AV → HS → Prop) (hd : 14 ≤ d) (ho : oth ≤ 7) (hw : (tW c i = 12 ∧ x = 3) ∨ (tW c i = 40 ∧ x = 4)) (h : RS c σ i nt q G) (hs : SK σ S oth) (h0 : 0 < S.length) (hl : S.length ≤ 3 * oth + 3)
    (k : oth < 7 → ∀ σ2, RS c σ2 (i + 1) nt q G → SK σ2 (x :: S) (oth + 1) → Fr (cE (crb c)) σ σ2 → atX11_e_17 d Q σ2 1)
    (kF : oth = 7 → ∀ σ2, RF c σ2 (i + 1) → Fr (cE (crb c)) σ σ2 → Q none σ2) : atX11_e_17 d Q σ 1 := by
  have go : atX11_one_34 (d - 1) (BQ d Q) σ (nI x) := by
    refine wX11_one_34 (d - 1) (BQ d Q) σ _ (by omega) (pile_s (d - 1 - 1) x σ _ h hs (by omega) (fun σ1 a1 s1 f1 => ⟨rfl, ?_⟩))
    refine next_s (d - 1 - 1) σ1 _ (by omega) a1 (by omega) (fun σ2 a2 b2 => ⟨rfl, ?_⟩)
    rintro _ rfl
    have s2 := s1.fr (rb := crb c) b2.NT
    have f2 : Fr (cE (crb c)) σ (up σ2 0 0 36 (nI (oth + 1))) := (f1.tr b2.NE).up (by simp [cE])
    have s3 : SK (up σ2 0 0 36 (nI (oth + 1))) (x :: S) (oth + 1) := ⟨by rw [up_f (by decide)]; exact s2.1, SKc.cong (fun s _ => by rw [up_ne (by decide)]) s2.2.1, up_same⟩
    rw [s2.2.2, nI_1, up_same]
    refine pk_lt (oth + 1) 8 (fun z => ⟨_, rfl, k (by omega) _ a2.dp s3 f2⟩) (fun z => ?_)
    exact wrong_s (d - 1 - 1) _ _ (by omega) a2.dp (fun σ4 a4 b4 => ⟨rfl, _, rfl, el_fail d _ σ4 Q (by omega) a4 (kF (by omega) σ4 a4 (f2.tr b4.TE))⟩)
  have g19 : atX11_one_19 (d - 1) (BQ d Q) σ := by
    refine wX11_one_19 (d - 1) (BQ d Q) σ (by omega) (h.is (d - 1 - 1) 40 σ _ (by omega) (by omega) (by omega) (fun z => ⟨_, rfl, fun y => absurd y (by decide), fun _ => ?_⟩) (fun z => ⟨_, rfl, fun _ => ?_, fun y => absurd rfl y⟩))
    · have e : x = 4 := by omega
      subst e
      exact go
    · have e : x = 3 := by omega
      subst e
      exact go
  refine el_one d σ Q (by omega) h hs h0 (by omega) (wX11_one (d - 1) σ _ (by omega) (h.is (d - 1 - 1) 40 σ _ (by omega) (by omega) (by omega) (fun z => ⟨_, rfl, fun _ => g19, fun y => absurd y (by decide)⟩) (fun z => ⟨_, rfl, fun y => absurd rfl y, fun _ => ?_⟩)))
  rw [h.tk.w12]
  exact ⟨fun y => by omega, fun _ => g19⟩
theorem one_not {c : CX} {oth i nt q j nt2 q2 : Nat} {G G2 : Nat → GI} (ho : oth < 7) (hw : tW c i = 12) (hq : q2 < 900) (r : ROne c (oth + 1) (i + 1) nt q G j nt2 q2 G2) : ROne c oth i nt q G j nt2 (q2 + 1) (uF G2 q2 (126, 0, 0)) := by
  intro d σ Q S hd h hs h0 hl k
  refine one_in d σ Q hd (by omega) (Or.inl ⟨hw, rfl⟩) h hs h0 hl (fun _ σ2 a2 s2 f2 => r d σ2 Q (3 :: S) hd a2 s2 (by simp) (by simp; omega) (fun σ3 a3 s3 f3 => ?_)) (fun e => by omega)
  exact BL_pop d (tW c j) σ3 Q (by omega) (by omega) (by have := rkN_le (tW c j); omega) hq a3 s3 (by omega) (by omega) (fun σ4 a4 s4 f4 => k σ4 a4 s4 ((f2.tr f3).tr f4))
theorem one_notF {c : CX} {oth i nt q j : Nat} {G : Nat → GI} (ho : oth < 7) (hw : tW c i = 12) (r : ROneF c (oth + 1) (i + 1) nt q G j) : ROneF c oth i nt q G j := by
  intro d σ Q S hd h hs h0 hl k
  exact one_in d σ Q hd (by omega) (Or.inl ⟨hw, rfl⟩) h hs h0 hl (fun _ σ2 a2 s2 f2 => r d σ2 Q (3 :: S) hd a2 s2 (by simp) (by simp; omega) (fun σ3 a3 f3 => k σ3 a3 (f2.tr f3))) (fun e => by omega)
theorem one_deepF {c : CX} {i nt q : Nat} {G : Nat → GI} (hw : tW c i = 12 ∨ tW c i = 40) : ROneF c 7 i nt q G (i + 1) := by
  intro d σ Q S hd h hs h0 hl k
  rcases hw with hw | hw
  · exact one_in d σ Q hd (by omega) (Or.inl ⟨hw, rfl⟩) h hs h0 hl (fun e => by omega) (fun _ σ2 a2 f2 => k σ2 a2 f2)
  · exact one_in d σ Q hd (by omega) (Or.inr ⟨hw, rfl⟩) h hs h0 hl (fun e => by omega) (fun _ σ2 a2 f2 => k σ2 a2 f2)
/-! an e within so many others: the state of its loops is (b, o) -/
def stk (b o : Nat) (S : List Nat) : List Nat := (if 0 < o then [2] else []) ++ ((if 0 < b then [1] else []) ++ S)
theorem stk_00 (S : List Nat) : stk 0 0 S = S := rfl
theorem stk_len (b o : Nat) (S : List Nat) : (stk b o S).length = min o 1 + min b 1 + S.length := by
  unfold stk
  by_cases h : 0 < o
  · by_cases h2 : 0 < b
    · rw [if_pos h, if_pos h2]; simp; omega
    · rw [if_pos h, if_neg h2]; simp; omega
  · by_cases h2 : 0 < b
    · rw [if_neg h, if_pos h2]; simp; omega
    · rw [if_neg h, if_neg h2]; simp; omega
def gA (o q : Nat) (G : Nat → GI) : Nat → GI := if 0 < o then uF G q (38, 0, 0) else G
def gO (b q : Nat) (G : Nat → GI) : Nat → GI := if 0 < b then uF G q (124, 0, 0) else G
def RRs (c : CX) (oth b o i nt q : Nat) (G : Nat → GI) (j nt2 q2 : Nat) (G2 : Nat → GI) : Prop := ∀ d σ Q x T, 14 ≤ d → RS c σ i nt q G → (x = 4 ∨ x = 5) → SK σ (stk b o (x :: T)) oth → T.length ≤ 3 * oth → (∀ σ2, RS c σ2 j nt2 q2 G2 → SK σ2 (x :: T) oth → Fr (cE (crb c)) σ σ2 → BL d Q σ2 (tW c j)) → atX11_e_17 d Q σ 1
def RRsF (c : CX) (oth b o i nt q : Nat) (G : Nat → GI) (j : Nat) : Prop := ∀ d σ Q x T, 14 ≤ d → RS c σ i nt q G → (x = 4 ∨ x = 5) → SK σ (stk b o (x :: T)) oth → T.length ≤ 3 * oth → (∀ σ2, RF c σ2 j → Fr (cE (crb c)) σ σ2 → Q none σ2) → atX11_e_17 d Q σ 1
theorem BL_and {c : CX} {i nt q dp b o : Nat} {G : Nat → GI} {S : List Nat} (d w : Nat) (σ : HS) (Q : Option AV → HS → Prop) (hd : 3 ≤ d) (hq : q < 900) (h : RS c σ i nt q G) (hs : SK σ (stk b o S) dp) (hl : S.length < 50)
    (k : ∀ σ2, RS c σ2 i nt (q + min o 1) (gA o q G) → SK σ2 (stk b 0 S) dp → Fr (cE (crb c)) σ σ2 → BL d Q σ2 w) : BL d Q σ w := by
  by_cases ho : 0 < o
  · have e : stk b o S = 2 :: stk b 0 S := by
      unfold stk
      rw [if_pos ho]
      rfl
    have l := stk_len b 0 S
    rw [e] at hs
    refine BL_pop d w σ Q hd (by omega) (rkN_le w) hq h hs (by omega) (by omega) (fun σ2 a s f => k σ2 ?_ s f)
    rw [Nat.min_eq_right ho]
    unfold gA
    rw [if_pos ho]
    exact a
  · have e : o = 0 := by omega
    subst e
    exact k σ h hs Fr.rf
theorem BL_or {c : CX} {i nt q dp b : Nat} {G : Nat → GI} {S : List Nat} (d w : Nat) (σ : HS) (Q : Option AV → HS → Prop) (hd : 3 ≤ d) (hw : w ≠ 11) (hq : q < 900) (h : RS c σ i nt q G) (hs : SK σ (stk b 0 S) dp) (hl : S.length < 50)
    (k : ∀ σ2, RS c σ2 i nt (q + min b 1) (gO b q G) → SK σ2 S dp → Fr (cE (crb c)) σ σ2 → BL d Q σ2 w) : BL d Q σ w := by
  by_cases ho : 0 < b
  · have e : stk b 0 S = 1 :: S := by
      unfold stk
      rw [if_pos ho]
      rfl
    rw [e] at hs
    refine BL_pop d w σ Q hd (by omega) ?_ hq h hs (by omega) (by omega) (fun σ2 a s f => k σ2 ?_ s f)
    · unfold rkN
      rw [if_neg hw]
      by_cases z : w = 10
      · rw [if_pos z]; omega
      · rw [if_neg z]; omega
    rw [Nat.min_eq_right ho]
    unfold gO
    rw [if_pos ho]
    exact a
  · have e : b = 0 := by omega
    subst e
    exact k σ h hs Fr.rf
