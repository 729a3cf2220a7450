/-! the reference's pile -/
def SKc (σ : HS) : List Nat → Prop
  | [] => True
  | x :: T => σ.1 31 0 T.length = nI x ∧ SKc σ T
def SK (σ : HS) (S : List Nat) (dp : Nat) : Prop := σ.1 0 0 35 = nI S.length ∧ SKc σ S ∧ σ.1 0 0 36 = nI dp
theorem SKc.cong {σ σ2 : HS} : ∀ {S : List Nat}, (∀ s, s < S.length → σ2.1 31 0 s = σ.1 31 0 s) → SKc σ S → SKc σ2 S
  | [], _, _ => True.intro
  | x :: T, h, a => ⟨by rw [h T.length (Nat.lt_succ_self _)]; exact a.1, SKc.cong (fun s hs => h s (Nat.lt_succ_of_lt hs)) a.2⟩
theorem SK.fr {rb dp : Nat} {σ σ2 : HS} {S : List Nat} (h : SK σ S dp) (f : Fr (cT rb) σ σ2) : SK σ2 S dp :=
  ⟨by rw [f 0 0 35 rfl]; exact h.1, SKc.cong (fun s _ => f 31 0 s rfl) h.2.1, by rw [f 0 0 36 rfl]; exact h.2.2⟩
theorem RS.pl {c : CX} {σ : HS} {i nt q : Nat} {G : Nat → GI} {x : Int32} (h : RS c σ i nt q G) : RS c (up σ 0 0 35 x) i nt q G := by
  refine h.fr rfl (fun s hs => ?_) (fun k hk => ?_)
  · refine up_f (fun z => ?_)
    subst z
    revert hs
    decide
  · refine up_ne (fun z => ?_)
    subst z
    revert hk
    decide
theorem RS.dp {c : CX} {σ : HS} {i nt q : Nat} {G : Nat → GI} {x : Int32} (h : RS c σ i nt q G) : RS c (up σ 0 0 36 x) i nt q G := by
  refine h.fr rfl (fun s hs => ?_) (fun k hk => ?_)
  · refine up_f (fun z => ?_)
    subst z
    revert hs
    decide
  · refine up_ne (fun z => ?_)
    subst z
    revert hk
    decide
theorem RS.ew {c : CX} {σ : HS} {i nt q j : Nat} {G : Nat → GI} {x : Int32} (h : RS c σ i nt q G) : RS c (up σ 31 0 j x) i nt q G := by
  refine h.fr rfl (fun s hs => ?_) (fun k hk => ?_)
  · rw [up_ne (by decide)]
  · refine up_ne (fun z => ?_)
    subst z
    revert hk
    decide
theorem pile_s {c : CX} {i nt q dp : Nat} {G : Nat → GI} {S : List Nat} (d x : Nat) (σ : HS) (Q : Option AV → HS → Prop) (h : RS c σ i nt q G) (hs : SK σ S dp) (hl : S.length < 60) (k : ∀ σ2, RS c σ2 i nt q G → SK σ2 (x :: S) dp → Fr (cE (crb c)) σ σ2 → Q none σ2) : MT d mX11_pile [vR 0 0, vI (nI x)] σ Q := by
  refine wX11_pile d _ σ Q ?_
  rw [hs.1]
  refine ⟨vp_in_nI hl (by omega), ?_⟩
  rintro _ rfl _ rfl
  rw [up_ne (show (0 : Nat) ≠ 31 by decide), hs.1, nI_1, nI_clamp (by omega)]
  refine k _ h.ew.pl ⟨up_same, ⟨?_, SKc.cong (fun s z => ?_) hs.2.1⟩, ?_⟩ ((Fr.rf.up (by simp [cE])).up (by simp [cE]))
  · rw [up_ne (show (31 : Nat) ≠ 0 by decide), up_same]
  · rw [up_ne (show (31 : Nat) ≠ 0 by decide), up_f (by omega)]
  · rw [up_f (by decide), up_ne (show (0 : Nat) ≠ 31 by decide)]
    exact hs.2.2
def rkN (w : Nat) : Nat := if w = 11 then 2 else if w = 10 then 1 else 0
theorem rkN_le (w : Nat) : rkN w ≤ 2 := by
  unfold rkN
  by_cases h : w = 11
  · rw [if_pos h]; omega
  · rw [if_neg h]
    by_cases h2 : w = 10
    · rw [if_pos h2]; omega
    · rw [if_neg h2]; omega
def BQ (d : Nat) (Q : Option AV → HS → Prop) : Option AV → HS → Prop := fun r σ' => ∃ r', r = some (vI r') ∧ atX11_e_17 d Q σ' r'
def BL (d : Nat) (Q : Option AV → HS → Prop) (σ : HS) (w : Nat) : Prop := atX11_behind_30 (d - 1) (BQ d Q) σ (nI (rkN w))
theorem el_behind {c : CX} {i nt q dp : Nat} {G : Nat → GI} {S : List Nat} (d : Nat) (σ : HS) (Q : Option AV → HS → Prop) (hd : 2 ≤ d) (h : RS c σ i nt q G) (hs : SK σ S dp) (h0 : 0 < S.length) (hl : S.length < 60) (k : BL d Q σ (tW c i)) : atX11_e_17 d Q σ 0 := by
  refine wX11_e_17 d Q σ _ (by omega) ⟨fun y => absurd h.fk y, fun _ => ⟨fun y => ?_, fun _ => ⟨fun _ => ?_, fun y => absurd rfl y⟩⟩⟩
  · rw [hs.1] at y
    exact absurd y (nI_nle h0 (by omega))
  · have k' : atX11_behind_30 (d - 1) (BQ d Q) σ (nI (rkN (tW c i))) := k
    refine wX11_behind (d - 1) σ _ (by omega) ?_
    rw [h.tk.w11, h.tk.w10]
    refine ⟨fun z => ⟨fun y => ?_, fun y => ?_⟩, fun z => ?_⟩
    · unfold rkN at k'
      rw [if_neg z, if_neg y] at k'
      exact k'
    · unfold rkN at k'
      rw [if_neg z, if_pos y] at k'
      exact k'
    · unfold rkN at k'
      rw [if_pos z] at k'
      exact k'
theorem el_one {c : CX} {i nt q dp : Nat} {G : Nat → GI} {S : List Nat} (d : Nat) (σ : HS) (Q : Option AV → HS → Prop) (hd : 2 ≤ d) (h : RS c σ i nt q G) (hs : SK σ S dp) (h0 : 0 < S.length) (hl : S.length < 60) (k : MT (d - 1) mX11_one [vR 0 0] σ (BQ d Q)) : atX11_e_17 d Q σ 1 := by
  refine wX11_e_17 d Q σ _ (by omega) ⟨fun y => absurd h.fk y, fun _ => ⟨fun y => ?_, fun _ => ⟨fun y => absurd y (by decide), fun _ => k⟩⟩⟩
  rw [hs.1] at y
  exact absurd y (nI_nle h0 (by omega))
theorem el_fail {c : CX} {j : Nat} (d : Nat) (x : Int32) (σ : HS) (Q : Option AV → HS → Prop) (hd : 1 ≤ d) (h : RF c σ j) (k : Q none σ) : atX11_e_17 d Q σ x :=
  wX11_e_17 d Q σ _ hd ⟨fun _ => k, fun y => absurd y h.ne⟩
def opc (x : Nat) : Nat := if x = 3 then 126 else if x = 2 then 38 else 124
theorem BL_pop {c : CX} {i nt q dp x : Nat} {G : Nat → GI} {S : List Nat} (d w : Nat) (σ : HS) (Q : Option AV → HS → Prop) (hd : 3 ≤ d) (hx : x = 1 ∨ x = 2 ∨ x = 3) (hr : rkN w ≤ x) (hq : q < 900) (h : RS c σ i nt q G) (hs : SK σ (x :: S) dp) (hl : S.length < 60) (hp : x = 3 → 1 ≤ dp)
    (k : ∀ σ2, RS c σ2 i nt (q + 1) (uF G q (opc x, 0, 0)) → SK σ2 S (if x = 3 then dp - 1 else dp) → Fr (cE (crb c)) σ σ2 → BL d Q σ2 w) : BL d Q σ w := by
  have e1 : σ.1 0 0 35 - 1 = nI S.length := by
    rw [hs.1]
    exact nI_pred S.length
  have ew : σ.1 31 0 S.length = nI x := hs.2.1.1
  have hr2 := rkN_le w
  show atX11_behind_30 (d - 1) (BQ d Q) σ (nI (rkN w))
  refine wX11_behind_30 (d - 1) (BQ d Q) σ _ ?_
  rw [e1, nI_clamp (by omega), ew]
  refine ⟨vp_in_nI hl (by omega), pk_lt 3 x (fun z => by omega) (fun _ => ⟨vp_in_nI hl (by omega), pk_lt x (rkN w) (fun z => by omega) (fun _ => ?_)⟩)⟩
  rintro _ rfl
  rw [up_same, nI_clamp (by omega), up_ne (show (31 : Nat) ≠ 0 by decide), ew]
  refine ⟨vp_in_nI hl (by omega), ?_⟩
  have fin : ∀ σ', RS c σ' i nt q G → SK σ' S (if x = 3 then dp - 1 else dp) → σ'.1 31 0 S.length = nI x → Fr (cE (crb c)) σ σ' → atX11_behind_93 (d - 1) (BQ d Q) σ' (nI (rkN w)) := by
    intro σ' h' s' w' f'
    have st : ∀ y, opc x = y → MT (d - 1 - 1) mX11_step [vR 0 0, vI (nI y), vI 0, vI 0] σ' (fun r σ_57 => r = none ∧ atX11_behind_30 (d - 1) (BQ d Q) σ_57 (nI (rkN w))) := by
      rintro _ rfl
      exact step_s (d - 1 - 1) (opc x, 0, 0) 0 0 σ' _ h' hq (fun _ => rfl) (fun _ => rfl) (fun σ2 a b => ⟨rfl, k σ2 a (s'.fr b) (f'.tr b.TE)⟩)
    refine wX11_behind_93 (d - 1) (BQ d Q) σ' _ (by omega) ?_
    rw [s'.1, nI_clamp (by omega), w']
    refine ⟨vp_in_nI hl (by omega), And.symm (pk_eq x 3 (fun z => st 126 (by unfold opc; rw [if_pos z])) (fun z => ⟨vp_in_nI hl (by omega), And.symm (pk_eq x 2 (fun y => st 38 (by unfold opc; rw [if_neg z, if_pos y])) (fun y => st 124 (by unfold opc; rw [if_neg z, if_neg y])))⟩))⟩
  have f1 : Fr (cE (crb c)) σ (up σ 0 0 35 (nI S.length)) := Fr.rf.up (by simp [cE])
  refine And.symm (pk_eq x 3 (fun z => ?_) (fun z => ?_))
  · rintro _ rfl
    refine fin _ h.pl.dp ⟨?_, SKc.cong (fun s _ => by rw [up_ne (by decide), up_ne (by decide)]) hs.2.1.2, ?_⟩ (by rw [up_ne (by decide), up_ne (by decide)]; exact ew) (f1.up (by simp [cE]))
    · rw [up_f (by decide), up_same]
    · rw [up_same, if_pos z, up_f (by decide), hs.2.2]
      exact pk_sub (a := dp) (b := 1) (hp z)
  · refine fin _ h.pl ⟨up_same, SKc.cong (fun s _ => by rw [up_ne (by decide)]) hs.2.1.2, ?_⟩ (by rw [up_ne (by decide)]; exact ew) f1
    rw [if_neg z, up_f (by decide)]
    exact hs.2.2
theorem BL_stop {c : CX} {i nt q dp x : Nat} {G : Nat → GI} {S : List Nat} (d w : Nat) (σ : HS) (Q : Option AV → HS → Prop) (hx : 3 < x ∨ x < rkN w) (hx2 : x ≤ 5) (h : RS c σ i nt q G) (hs : SK σ (x :: S) dp) (hl : S.length < 60) (k : atX11_behind_140 (d - 1) (BQ d Q) σ (nI (rkN w))) : BL d Q σ w := by
  have e1 : σ.1 0 0 35 - 1 = nI S.length := by
    rw [hs.1]
    exact nI_pred S.length
  have ew : σ.1 31 0 S.length = nI x := hs.2.1.1
  have hr2 := rkN_le w
  show atX11_behind_30 (d - 1) (BQ d Q) σ (nI (rkN w))
  refine wX11_behind_30 (d - 1) (BQ d Q) σ _ ?_
  rw [e1, nI_clamp (by omega), ew]
  exact ⟨vp_in_nI hl (by omega), pk_lt 3 x (fun z => k) (fun _ => ⟨vp_in_nI hl (by omega), pk_lt x (rkN w) (fun z => k) (fun _ => by omega)⟩)⟩
theorem BL_push {c : CX} {i nt q dp x : Nat} {G : Nat → GI} {S : List Nat} (d : Nat) (σ : HS) (Q : Option AV → HS → Prop) (hd : 4 ≤ d) (hx : 3 < x ∨ x < rkN (tW c i)) (hx2 : x ≤ 5) (hw : tW c i = 10 ∨ tW c i = 11) (h : RS c σ i nt q G) (hs : SK σ (x :: S) dp) (hl : S.length < 58)
    (k : ∀ σ2, RS c σ2 (i + 1) nt q G → SK σ2 (rkN (tW c i) :: x :: S) dp → Fr (cE (crb c)) σ σ2 → atX11_e_17 d Q σ2 1) : BL d Q σ (tW c i) := by
  refine BL_stop d (tW c i) σ Q hx hx2 h hs (by omega) (wX11_behind_140 (d - 1) (BQ d Q) σ _ (by omega) ⟨fun z => ?_, fun _ => ?_⟩)
  · have hr : 0 < rkN (tW c i) := by
      unfold rkN
      rcases hw with e | e
      · rw [if_neg (by omega), if_pos e]; omega
      · rw [if_pos e]; omega
    exact absurd z (nI_nle hr (by have := rkN_le (tW c i); omega))
  · refine pile_s (d - 1 - 1) _ σ _ h hs (by show S.length + 1 < 60; omega) (fun σ2 a b f => ⟨rfl, next_s (d - 1 - 1) σ2 _ (by omega) a (by omega) (fun σ3 a3 b3 => ⟨rfl, _, rfl, k σ3 a3 (b.fr (rb := crb c) b3.NT) (f.tr b3.NE)⟩)⟩)
/-- at a bracket -/
theorem BL_close {c : CX} {i nt q dp : Nat} {G : Nat → GI} {S : List Nat} (d : Nat) (σ : HS) (Q : Option AV → HS → Prop) (hd : 5 ≤ d) (hw : tW c i ≠ 10 ∧ tW c i ≠ 11) (h : RS c σ i nt q G) (hs : SK σ (4 :: S) (dp + 1)) (h0 : 0 < S.length) (hl : S.length < 60)
    (k : tW c i = 41 → ∀ σ2, RS c σ2 (i + 1) nt q G → SK σ2 S dp → Fr (cE (crb c)) σ σ2 → BL d Q σ2 (tW c (i + 1)))
    (kF : tW c i ≠ 41 → ∀ σ2, RF c σ2 i → Fr (cE (crb c)) σ σ2 → Q none σ2) : BL d Q σ (tW c i) := by
  have e1 : σ.1 0 0 35 - 1 = nI S.length := by
    rw [hs.1]
    exact nI_pred S.length
  have ew : σ.1 31 0 S.length = nI 4 := hs.2.1.1
  have er : rkN (tW c i) = 0 := by
    unfold rkN
    rw [if_neg hw.2, if_neg hw.1]
  refine BL_stop d (tW c i) σ Q (Or.inl (by omega)) (by omega) h hs (by omega) (wX11_behind_140 (d - 1) (BQ d Q) σ _ (by omega) ⟨fun _ => ?_, fun z => ?_⟩)
  · rintro _ rfl
    rw [e1, up_same, nI_clamp (by omega), up_ne (show (31 : Nat) ≠ 0 by decide), ew]
    refine ⟨vp_in_nI hl (by omega), fun z => absurd rfl z, fun _ => ?_⟩
    rintro _ rfl
    have h2 := (h.pl (x := nI S.length)).dp (x := (up σ 0 0 35 (nI S.length)).1 0 0 36 - 1)
    have f2 : Fr (cE (crb c)) σ (up (up σ 0 0 35 (nI S.length)) 0 0 36 ((up σ 0 0 35 (nI S.length)).1 0 0 36 - 1)) := (Fr.rf.up (by simp [cE])).up (by simp [cE])
    have s2 : SK (up (up σ 0 0 35 (nI S.length)) 0 0 36 ((up σ 0 0 35 (nI S.length)).1 0 0 36 - 1)) S dp := by
      refine ⟨by rw [up_f (by decide), up_same], SKc.cong (fun s _ => by rw [up_ne (by decide), up_ne (by decide)]) hs.2.1.2, ?_⟩
      rw [up_same, up_f (by decide), hs.2.2]
      exact nI_pred dp
    generalize up (up σ 0 0 35 (nI S.length)) 0 0 36 ((up σ 0 0 35 (nI S.length)).1 0 0 36 - 1) = σ2 at h2 f2 s2 ⊢
    refine h2.is (d - 1 - 1) 41 σ2 _ (by omega) (by omega) (by omega) (fun w => ⟨_, rfl, ?_⟩) (fun w => ⟨_, rfl, ?_⟩)
    · exact must_s (d - 1 - 1) 41 1 σ2 _ (by omega) h2 (by omega) ⟨fun y => absurd y (by decide), fun y => absurd w y⟩ (fun _ σ3 a b => ⟨rfl, _, rfl, el_behind d σ3 Q (by omega) a (s2.fr (rb := crb c) b.NT) h0 hl (k w σ3 a (s2.fr (rb := crb c) b.NT) (f2.tr b.NE))⟩) (fun y => absurd w y)
    · exact must_s (d - 1 - 1) 41 0 σ2 _ (by omega) h2 (by omega) ⟨fun _ => w, fun _ => rfl⟩ (fun y => absurd y w) (fun _ σ3 a b => ⟨rfl, _, rfl, el_fail d _ σ3 Q (by omega) a (kF w σ3 a (f2.tr b.TE))⟩)
  · rw [er] at z
    exact absurd (by decide) z
/-- the end of the whole condition -/
theorem BL_all {c : CX} {i nt q dp : Nat} {G : Nat → GI} (d : Nat) (σ : HS) (Q : Option AV → HS → Prop) (hd : 3 ≤ d) (hw : tW c i ≠ 10 ∧ tW c i ≠ 11) (h : RS c σ i nt q G) (hs : SK σ [5] dp)
    (k : ∀ σ2, RS c σ2 i nt q G → Fr (cE (crb c)) σ σ2 → Q none σ2) : BL d Q σ (tW c i) := by
  have e1 : σ.1 0 0 35 - 1 = nI 0 := by
    rw [hs.1]
    exact nI_pred 0
  have ew : σ.1 31 0 0 = nI 5 := hs.2.1.1
  have er : rkN (tW c i) = 0 := by
    unfold rkN
    rw [if_neg hw.2, if_neg hw.1]
  refine BL_stop d (tW c i) σ Q (Or.inl (by omega)) (by omega) h hs (by decide) (wX11_behind_140 (d - 1) (BQ d Q) σ _ (by omega) ⟨fun _ => ?_, fun z => ?_⟩)
  · rintro _ rfl
    rw [e1, up_same, nI_clamp (by omega), up_ne (show (31 : Nat) ≠ 0 by decide), ew]
    refine ⟨vp_in_nI (by omega) (by omega), fun _ => ⟨_, rfl, ?_⟩, fun z => absurd z (by decide)⟩
    have fin := k _ (h.pl (x := nI 0)) (Fr.rf.up (by simp [cE]))
    exact wX11_e_17 d Q _ _ (by omega) ⟨fun y => absurd h.pl.fk y, fun _ => ⟨fun _ => fin, fun y => absurd (by rw [up_same]; decide) y⟩⟩
  · rw [er] at z
    exact absurd (by decide) z
