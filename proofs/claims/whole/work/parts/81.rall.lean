/-! the reference: feedAll -/
section
variable {G : HS} {w : WD} {κ : Nat}
theorem rs_ix {l : Nat} (hl : l < 488) (hκ : κ < 3) : (nI l / 61 * 3 + nI κ) * 61 + (nI l - nI l / 61 * 61) = nI ((l / 61 * 3 + κ) * 61 + l % 61) := by
  rw [show (61 : Int32) = nI 61 from rfl, pk_rem (by omega) (by omega) (by omega), pk_div (by omega) (by omega) (by omega), show (3 : Int32) = nI 3 from rfl, pk_mul, nI_add, pk_mul, nI_add]
/-- rows of the lots -/
def RR (w : WD) (κ : Nat) (σ : HS) (j : Nat) (cw : Int32 × Int32) : Prop := (∀ l, l < j → σ.1 42 0 l = nI (rs w κ l) ∧ ∀ f, f < 10 → σ.1 43 0 (10 * l + f) = nI 0) ∧ σ.1 0 0 56 = cw.1 ∧ σ.1 0 0 57 = cw.2
theorem f55_ok (d : Nat) (Q : Option AV → HS → Prop) (cw : Int32 × Int32) (j : Nat) (hj : j < 488) (k : ∀ σ2, Sim G σ2 → RR w κ σ2 (j + 1) cw → atX11_feedAll_19 d Q σ2 (nI κ) (nI (j + 1))) : ∀ m i, i + m = 10 → ∀ σ, Sim G σ → RR w κ σ j cw → σ.1 42 0 j = nI (rs w κ j) → (∀ f, f < i → σ.1 43 0 (10 * j + f) = nI 0) → atX11_feedAll_55 d Q σ (nI κ) (nI j) (nI i) := by
  intro m
  induction m with
  | zero =>
    intro i hi σ hs hr hl hf
    have e : i = 10 := by omega
    subst e
    refine wX11_feedAll_55 d Q σ _ _ _ ⟨fun _ => ?_, fun y => absurd (by decide) y⟩
    rintro _ rfl
    rw [nI_1]
    refine k σ hs ⟨fun l hl2 => ?_, hr.2⟩
    by_cases z : l = j
    · subst z; exact ⟨hl, hf⟩
    · exact hr.1 l (by omega)
  | succ m ih =>
    intro i hi σ hs hr hl hf
    have ej : (10 : Int32) * nI j + nI i = nI (10 * j + i) := by rw [show (10 : Int32) = nI 10 from rfl, pk_mul, nI_add]
    refine wX11_feedAll_55 d Q σ _ _ _ ⟨fun y => absurd y (nI_ge (a := i) (b := 10) (by omega) (by omega)), fun _ => ?_⟩
    rw [ej, nI_clamp (show 10 * j + i < 2 ^ 31 by omega)]
    refine ⟨vp_in_nI (by omega) (by omega), ?_⟩
    rintro _ rfl _ rfl
    rw [nI_1]
    refine ih (i + 1) (by omega) _ (hs.up rfl) ⟨fun l hl2 => ?_, ?_⟩ ?_ (fun f hf2 => ?_)
    · obtain ⟨a, b⟩ := hr.1 l hl2
      refine ⟨by rw [up_ne (by decide)]; exact a, fun f hf2 => ?_⟩
      rw [up_f (by omega)]
      exact b f hf2
    · rw [up_ne (by decide)]; exact hr.2
    · rw [up_ne (by decide)]; exact hl
    · by_cases z : f = i
      · subst z; rw [up_same]; rfl
      · rw [up_f (by omega)]; exact hf f (by omega)
theorem f19_ok (d : Nat) (Q : Option AV → HS → Prop) (cw : Int32 × Int32) (hd : 1 ≤ d) (hW : WO G w) (hκ : κ < 3) (k : ∀ σ2, Sim G σ2 → RR w κ σ2 (61 * wn w) cw → atX11_feedAll_87 d Q σ2 (nI κ) 0) : ∀ m j, j + m = 61 * wn w → ∀ σ, Sim G σ → RR w κ σ j cw → atX11_feedAll_19 d Q σ (nI κ) (nI j) := by
  have h1 := hW.1.1
  intro m
  induction m with
  | zero =>
    intro j hj σ hs hr
    refine wX11_feedAll_19 d Q σ _ _ hd ?_
    rw [hs 0 0 7 rfl, hW.1.2.2.2.1.1, lt61 h1]
    refine ⟨fun _ => k σ hs ?_, fun y => absurd (nI_le (by omega) (by omega)) y⟩
    have e : j = 61 * wn w := by omega
    rw [← e]
    exact hr
  | succ m ih =>
    intro j hj σ hs hr
    have lt : (j / 61 * 3 + κ) * 61 + j % 61 < 1464 := by omega
    have lo := (hW.2.2.2.2.1 _ lt)
    refine wX11_feedAll_19 d Q σ _ _ hd ?_
    rw [hs 0 0 7 rfl, hW.1.2.2.2.1.1, lt61 h1, rs_ix (by omega) hκ, nI_clamp (show (j / 61 * 3 + κ) * 61 + j % 61 < 2 ^ 31 by omega), nI_clamp (show j < 2 ^ 31 by omega), hs 17 0 _ rfl, lo.1]
    refine ⟨fun y => absurd y (nI_ge (by omega) (by omega)), fun _ => ⟨vp_in_nI lt (by omega), vp_in_nI (by omega) (by omega), ?_⟩⟩
    rintro _ rfl
    refine f55_ok d Q cw j (by omega) (fun σ2 s2 r2 => ih (j + 1) (by omega) σ2 s2 r2) 10 0 (by omega) _ (hs.up rfl) ⟨fun l hl => ?_, ?_⟩ up_same (fun f hf => absurd hf (Nat.not_lt_zero f))
    · obtain ⟨a, b⟩ := hr.1 l hl
      refine ⟨by rw [up_f (by omega)]; exact a, fun f hf2 => ?_⟩
      rw [up_ne (by decide)]
      exact b f hf2
    · rw [up_ne (by decide)]; exact hr.2
theorem f87_ok (d : Nat) (Q : Option AV → HS → Prop) (cw : Int32 × Int32) (hW : WO G w) (hκ : κ < 3) (k : ∀ σ2, Sim G σ2 → RG σ2 (61 * wn w) (wf w) (fun _ => 0) (rs w κ) (rd w κ) cw → atX11_feedAll_129 d Q σ2 (nI κ) 1) : ∀ m j, j + m = wf w → ∀ σ, Sim G σ → RR w κ σ (61 * wn w) cw → (∀ f, f < j → σ.1 44 0 f = nI (rd w κ f)) → atX11_feedAll_87 d Q σ (nI κ) (nI j) := by
  have h1 := hW.1.1
  have h2 := hW.1.2.2.1
  intro m
  induction m with
  | zero =>
    intro j hj σ hs hr hf
    refine wX11_feedAll_87 d Q σ _ _ ?_
    rw [hs 0 0 55 rfl, hW.1.2.2.2.2.2.1]
    refine ⟨fun _ => k σ hs ⟨fun l hl => ⟨(hr.1 l hl).1, ?_⟩, fun f hf2 => ⟨hf f (by omega), rd_le hW hf2⟩, fun l f hl hf2 => ⟨(hr.1 l hl).2 f (by omega), Nat.zero_le _⟩, hr.2⟩, fun y => absurd (nI_le (by omega) (by omega)) y⟩
    exact (hW.2.2.2.2.1 _ (show (l / 61 * 3 + κ) * 61 + l % 61 < 1464 by omega)).2
  | succ m ih =>
    intro j hj σ hs hr hf
    obtain ⟨-, -, ⟨c1, -, -⟩, ⟨e1, -, -⟩⟩ := hW.2.2.1 j (by omega)
    have vx : vp_in (nI j) 10 := vp_in_nI (by omega) (by omega)
    have go : ∀ v, rd w κ j = v → atX11_feedAll_87 d Q (up σ 44 0 j (nI v)) (nI κ) (nI (j + 1)) := by
      rintro _ rfl
      refine ih (j + 1) (by omega) _ (hs.up rfl) ⟨fun l hl => ?_, ?_⟩ (fun f hf2 => ?_)
      · obtain ⟨a, b⟩ := hr.1 l hl
        exact ⟨by rw [up_ne (by decide)]; exact a, fun f hf2 => by rw [up_ne (by decide)]; exact b f hf2⟩
      · rw [up_ne (by decide)]; exact hr.2
      · by_cases z : f = j
        · subst z; rw [up_same]
        · rw [up_f z]; exact hf f (by omega)
    refine wX11_feedAll_87 d Q σ _ _ ?_
    rw [hs 0 0 55 rfl, hW.1.2.2.2.2.2.1, nI_clamp (show j < 2 ^ 31 by omega), hs 40 0 j rfl, c1, hs 41 0 j rfl, e1]
    have kd := (hW.2.2.1 j (by omega)).2.2.1.2.2
    refine ⟨fun y => absurd y (nI_ge (by omega) (by omega)), fun _ => ⟨vx, And.symm (pk_eq (wfk w j) κ (fun e => ⟨vx, vx, ?_⟩) (fun e => ⟨vx, ?_⟩))⟩⟩
    · rintro _ rfl _ rfl
      rw [nI_1]
      exact go _ (if_pos e)
    · rintro _ rfl _ rfl
      rw [nI_1]
      exact go 0 (if_neg e)
theorem f129_ok (d : Nat) (Q : Option AV → HS → Prop) (F0 C0 : Nat) (hd : 5 ≤ d) (hW : WO G w) (hκ : κ < 3) (k : ∀ σ2 F C, Sim G σ2 → BST (61 * wn w) (wf w) (rA w κ) (rc w) (rs w κ) (rd w κ) F C → σ2.1 0 0 56 = nI (F0 + F) → σ2.1 0 0 57 = nI (C0 + C) → atX11_feedAll_12 d Q σ2 (nI (κ + 1))) :
    ∀ m σ X lf op p q T, sm op (wf w) < m → Sim G σ → RG σ (61 * wn w) (wf w) X lf op (nI (F0 + ttl (61 * wn w) (wf w) X), nI (C0 + cst (61 * wn w) (wf w) (rc w) X)) → FC (61 * wn w) (wf w) (rs w κ) (rd w κ) X lf op → PV (61 * wn w) (wf w) (rA w κ) (rc w) X lf op p q T → T ≤ 100000000 → atX11_feedAll_129 d Q σ (nI κ) 1 := by
  intro m
  induction m with
  | zero => intro σ X lf op p q T h; omega
  | succ m ih =>
    intro σ X lf op p q T hm hs hg fc pv hT
    refine wX11_feedAll_129 d Q σ _ _ (by omega) ⟨fun y => absurd y (by decide), fun _ => ?_⟩
    refine give_ok (d - 1) σ _ _ _ (by omega) hW hκ hs hg fc pv hT (fun σ2 s2 g2 b2 => ⟨_, rfl, ?_⟩) (fun σ2 X2 lf2 op2 p2 q2 T2 n e n0 s2 g2 fc2 pv2 t2 so ec => ⟨_, rfl, ?_⟩)
    · refine wX11_feedAll_129 d Q σ2 _ _ (by omega) ⟨fun _ => ?_, fun y => absurd rfl y⟩
      rintro _ rfl
      rw [nI_1]
      exact k σ2 _ _ s2 b2 g2.2.2.2.1 g2.2.2.2.2
    · have t1 := tot_fc fc
      have t3 := tot_fc fc2
      refine ih σ2 X2 lf2 op2 p2 q2 T2 (by omega) s2 ?_ fc2 pv2 t2
      rw [show F0 + ttl (61 * wn w) (wf w) X2 = F0 + ttl (61 * wn w) (wf w) X + n by omega, ec, ← Nat.add_assoc]
      exact g2
theorem pv0 : PV (61 * wn w) (wf w) (rA w κ) (rc w) (fun _ => 0) (rs w κ) (rd w κ) (fun _ => 0) (fun _ => 0) 0 :=
  ⟨fun _ _ _ _ _ => Nat.zero_le _, fun _ _ _ _ y => absurd y (Nat.lt_irrefl 0), fun _ _ => ⟨Nat.le_refl _, fun _ => rfl⟩, fun _ _ => ⟨Nat.le_refl _, fun _ => rfl⟩⟩
theorem sm_0 (n : Nat) : sm (fun _ => 0) n = 0 := sm_zero (fun _ _ => rfl)
theorem fc0 : FC (61 * wn w) (wf w) (rs w κ) (rd w κ) (fun _ => 0) (rs w κ) (rd w κ) := ⟨fun l _ => by rw [sm_0]; rfl, fun f _ => by rw [sm_0]; rfl⟩
theorem ttl0 (a b : Nat) : ttl a b (fun _ => 0) = 0 := sm_zero (fun l _ => sm_0 _)
theorem cst0 (a b : Nat) (c : Nat → Nat → Nat) : cst a b c (fun _ => 0) = 0 := sm_zero (fun l _ => sm_zero (fun f _ => Nat.mul_zero _))
/-- one kind -/
theorem kind_ok (d : Nat) (Q : Option AV → HS → Prop) (σ : HS) (F0 C0 : Nat) (hd : 5 ≤ d) (hW : WO G w) (hκ : κ < 3) (hs : Sim G σ) (h1 : σ.1 0 0 56 = nI F0) (h2 : σ.1 0 0 57 = nI C0) (k : ∀ σ2 F C, Sim G σ2 → BST (61 * wn w) (wf w) (rA w κ) (rc w) (rs w κ) (rd w κ) F C → σ2.1 0 0 56 = nI (F0 + F) → σ2.1 0 0 57 = nI (C0 + C) → atX11_feedAll_12 d Q σ2 (nI (κ + 1))) : atX11_feedAll_12 d Q σ (nI κ) := by
  refine wX11_feedAll_12 d Q σ _ ⟨fun y => absurd y (nI_ge (a := κ) (b := 3) hκ (by omega)), fun _ => ?_⟩
  refine f19_ok d Q (nI F0, nI C0) (by omega) hW hκ (fun σ2 s2 r2 => f87_ok d Q (nI F0, nI C0) hW hκ (fun σ3 s3 g3 => ?_) (wf w) 0 (by omega) σ2 s2 r2 (fun f hf => absurd hf (Nat.not_lt_zero f))) (61 * wn w) 0 (by omega) σ hs ⟨fun l hl => absurd hl (Nat.not_lt_zero l), h1, h2⟩
  refine f129_ok d Q F0 C0 hd hW hκ k _ σ3 _ _ _ _ _ 0 (Nat.lt_succ_self _) s3 ?_ fc0 pv0 (Nat.zero_le _)
  rw [ttl0, cst0]
  exact g3
end
/-- all kinds -/
theorem rfeed_ok {G : HS} {w : WD} (d : Nat) (σ : HS) (Q : Option AV → HS → Prop) (hd : 5 ≤ d) (hW : WO G w) (hs : Sim G σ) (k : ∀ (σ2 : HS) (F C : Nat → Nat), Sim G σ2 → (∀ κ, κ < 3 → BST (61 * wn w) (wf w) (rA w κ) (rc w) (rs w κ) (rd w κ) (F κ) (C κ)) → σ2.1 0 0 56 = nI (F 0 + F 1 + F 2) → σ2.1 0 0 57 = nI (C 0 + C 1 + C 2) → Q none σ2) : MT d mX11_feedAll [vR 0 0] σ Q := by
  refine wX11_feedAll d σ Q ?_
  rintro _ rfl _ rfl
  refine kind_ok (κ := 0) d Q _ 0 0 hd hW (by omega) ((hs.up rfl).up rfl) (by rw [up_f (by decide), up_same]; rfl) (by rw [up_same]; rfl) (fun σ1 F1 C1 s1 b1 f1 c1 => ?_)
  refine kind_ok (κ := 1) d Q σ1 (0 + F1) (0 + C1) hd hW (by omega) s1 f1 c1 (fun σ2 F2 C2 s2 b2 f2 c2 => ?_)
  refine kind_ok (κ := 2) d Q σ2 (0 + F1 + F2) (0 + C1 + C2) hd hW (by omega) s2 f2 c2 (fun σ3 F3 C3 s3 b3 f3 c3 => ?_)
  refine wX11_feedAll_12 d Q σ3 _ ⟨fun _ => ?_, fun y => absurd (by decide) y⟩
  refine k σ3 (fun κ => if κ = 0 then F1 else if κ = 1 then F2 else F3) (fun κ => if κ = 0 then C1 else if κ = 1 then C2 else C3) s3 (fun κ hκ => ?_) ?_ ?_
  · have : κ = 0 ∨ κ = 1 ∨ κ = 2 := by omega
    rcases this with rfl | rfl | rfl
    · exact b1
    · exact b2
    · exact b3
  · rw [f3]
    show nI (0 + F1 + F2 + F3) = nI (F1 + F2 + F3)
    rw [Nat.zero_add]
  · rw [c3]
    show nI (0 + C1 + C2 + C3) = nI (C1 + C2 + C3)
    rw [Nat.zero_add]
