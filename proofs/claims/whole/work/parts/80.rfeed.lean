/-! the reference: giveMore, feedAll -/
section
variable {G : HS} {w : WD} {κ T : Nat} {X lf op p q : Nat → Nat} {cw : Int32 × Int32}
theorem g255_ok (d : Nat) (Q : Option AV → HS → Prop) (z : ZS) (b k n : Nat) (tD tE : Nat → Nat) (B : Nat) (hW : WO G w) (hbi : BI (61 * wn w) (wf w) 100000000 0 (rA w κ) (rc w) X lf p q z.1 z.2.1 z.2.2.1 z.2.2.2 tD tE B) (pv : PV (61 * wn w) (wf w) (rA w κ) (rc w) X lf op p q T) (fx : FX (61 * wn w) (wf w) 100000000 (rA w κ) (rc w) X z.1 z.2.1) (hb : b < wf w) (ho : 0 < op b) (hE : z.2.1 b < 100000000)
    (al : ∀ j, j < k → z.2.2.2 (Lk z.2.2.1 z.2.2.2 b j) ≠ none) (hk : z.2.2.2 (Lk z.2.2.1 z.2.2.2 b k) = none) (hn : n ≤ lf (Lk z.2.2.1 z.2.2.2 b k)) (hX : ∀ j, j < k → n ≤ X (10 * Lk z.2.2.1 z.2.2.2 b j + Fk z.2.2.1 z.2.2.2 b (j + 1)))
    (fin : ∀ σ2 X2, Sim G σ2 → RG σ2 (61 * wn w) (wf w) X2 (uF lf (Lk z.2.2.1 z.2.2.2 b k) (lf (Lk z.2.2.1 z.2.2.2 b k) - n)) (uF op b (op b - n)) cw → AU (61 * wn w) (wf w) (rc w) (rs w κ) (rd w κ) X lf op q z.1 z.2.1 z.2.2.1 z.2.2.2 b n T k X2 → Q (some (vI 1)) σ2) :
    ∀ m i σ X2, i + m = k → Sim G σ → RG σ (61 * wn w) (wf w) X2 lf (uF op b (op b - n)) cw → RLb σ (61 * wn w) (wf w) z → AU (61 * wn w) (wf w) (rc w) (rs w κ) (rd w κ) X lf op q z.1 z.2.1 z.2.2.1 z.2.2.2 b n T i X2 → atX11_giveMore_255 d Q σ (nI n) (nI (Lk z.2.2.1 z.2.2.2 b i)) := by
  have h1 := hW.1.1
  have h2 := hW.1.2.2.1
  obtain ⟨D, E, pl, pf⟩ := z
  dsimp only at *
  intro m
  induction m with
  | zero =>
    intro i σ X2 hi hs hg hl au
    have e : i = k := by omega
    subst e
    obtain ⟨-, l1, -⟩ := pth_L hbi pv fx hb ho hE i al
    have vx : vp_in (nI (Lk pl pf b i)) 488 := vp_in_nI (by omega) (by omega)
    have lg := hg.1 _ l1
    have bf : σ.1 47 0 (Lk pl pf b i) = -1 := by
      rw [(hl.1 _ l1).2]
      dsimp only
      rw [hk]
      rfl
    refine wX11_giveMore_255 d Q σ _ _ ?_
    rw [nI_clamp (show Lk pl pf b i < 2 ^ 31 by omega), bf, lg.1, pk_sub hn]
    refine ⟨vx, fun _ => ⟨vx, vx, ?_⟩, fun y => absurd (by decide) y⟩
    rintro _ rfl
    exact fin _ X2 (hs.up rfl) (hg.ull (by omega)) au
  | succ m ih =>
    intro i σ X2 hi hs hg hl au
    have al2 : ∀ j, j < i → pf (Lk pl pf b j) ≠ none := fun j hj => al j (by omega)
    have al3 : ∀ j, j < i + 1 → pf (Lk pl pf b j) ≠ none := fun j hj => al j (by omega)
    obtain ⟨-, l1, -⟩ := pth_L hbi pv fx hb ho hE i al2
    obtain ⟨a1, a2, a3, a4, a5⟩ := pth_n hbi pv fx hb ho hE i al2 (al i (by omega))
    obtain ⟨-, l2, -, l3, -⟩ := pth_L hbi pv fx hb ho hE (i + 1) al3
    have df := pth_dif (i := i) (j := i + 1) hbi pv fx hb ho hE (by omega) al3
    obtain ⟨n2, au2⟩ := au.step hbi pv fx h2 hb ho hE al3 (hX i (by omega))
    have vx : vp_in (nI (Lk pl pf b i)) 488 := vp_in_nI (by omega) (by omega)
    have vf : vp_in (nI (Fk pl pf b (i + 1))) 10 := vp_in_nI (by omega) (by omega)
    have bf : σ.1 47 0 (Lk pl pf b i) = nI (Fk pl pf b (i + 1)) := by
      rw [(hl.1 _ l1).2]
      dsimp only
      rw [a1]
      rfl
    have bl : σ.1 48 0 (Fk pl pf b (i + 1)) = nI (Lk pl pf b (i + 1)) := by
      rw [(hl.2 _ a3).2 l3]
      rfl
    have ej : ∀ l f, (10 : Int32) * nI l + nI f = nI (10 * l + f) := fun l f => by rw [show (10 : Int32) = nI 10 from rfl, pk_mul, nI_add]
    have hx := hg.2.2.1 _ _ l1 a3
    have vj : vp_in (nI (10 * Lk pl pf b i + Fk pl pf b (i + 1))) 4880 := vp_in_nI (by omega) (by omega)
    have vj2 : vp_in (nI (10 * Lk pl pf b (i + 1) + Fk pl pf b (i + 1))) 4880 := vp_in_nI (by omega) (by omega)
    have g2 := hg.ug (j := 10 * Lk pl pf b i + Fk pl pf b (i + 1)) (v := X2 (10 * Lk pl pf b i + Fk pl pf b (i + 1)) - n) (by omega)
    have hx2 := (g2.2.2.1 _ _ l2 a3).1
    have e1 : uF X2 (10 * Lk pl pf b i + Fk pl pf b (i + 1)) (X2 (10 * Lk pl pf b i + Fk pl pf b (i + 1)) - n) (10 * Lk pl pf b (i + 1) + Fk pl pf b (i + 1)) = X2 (10 * Lk pl pf b (i + 1) + Fk pl pf b (i + 1)) := uF_n (by omega)
    rw [e1] at hx2
    have bnd : X2 (10 * Lk pl pf b (i + 1) + Fk pl pf b (i + 1)) + n ≤ 10000 := by
      have c1 := au2.2.1 _ a3
      have c2 := rd_le (κ := κ) hW a3
      have c3 := sm_part (fun l => uF (uF X2 (10 * Lk pl pf b i + Fk pl pf b (i + 1)) (X2 (10 * Lk pl pf b i + Fk pl pf b (i + 1)) - n)) (10 * Lk pl pf b (i + 1) + Fk pl pf b (i + 1)) (X2 (10 * Lk pl pf b (i + 1) + Fk pl pf b (i + 1)) + n) (10 * l + Fk pl pf b (i + 1))) l2
      rw [uF_s] at c3
      omega
    refine wX11_giveMore_255 d Q σ _ _ ?_
    rw [nI_clamp (show Lk pl pf b i < 2 ^ 31 by omega), bf]
    refine ⟨vx, fun y => absurd y (nI_pos (by omega)), fun _ => ⟨vx, ?_⟩⟩
    rintro _ rfl
    rw [ej, nI_clamp (show 10 * Lk pl pf b i + Fk pl pf b (i + 1) < 2 ^ 31 by omega), nI_clamp (show Fk pl pf b (i + 1) < 2 ^ 31 by omega), hx.1, pk_sub n2]
    refine ⟨vj, vj, ?_⟩
    rintro _ rfl
    rw [up_ne (show (48 : Nat) ≠ 43 by decide), bl]
    refine ⟨vf, ?_⟩
    rintro _ rfl
    rw [ej, nI_clamp (show 10 * Lk pl pf b (i + 1) + Fk pl pf b (i + 1) < 2 ^ 31 by omega), hx2, nI_add]
    refine ⟨vj2, vj2, ?_⟩
    rintro _ rfl
    exact ih (i + 1) _ _ (by omega) ((hs.up rfl).up rfl) (g2.ug bnd) ((hl.upk (by decide) (by decide) (by decide) (by decide)).upk (by decide) (by decide) (by decide) (by decide)) au2
theorem give_ok (d : Nat) (σ : HS) (Q : Option AV → HS → Prop) (F C : Nat) (hd : 4 ≤ d) (hW : WO G w) (hκ : κ < 3) (hs : Sim G σ) (hg : RG σ (61 * wn w) (wf w) X lf op (nI F, nI C)) (fc : FC (61 * wn w) (wf w) (rs w κ) (rd w κ) X lf op) (pv : PV (61 * wn w) (wf w) (rA w κ) (rc w) X lf op p q T) (hT : T ≤ 100000000)
    (k0 : ∀ σ2, Sim G σ2 → RG σ2 (61 * wn w) (wf w) X lf op (nI F, nI C) → BST (61 * wn w) (wf w) (rA w κ) (rc w) (rs w κ) (rd w κ) (ttl (61 * wn w) (wf w) X) (cst (61 * wn w) (wf w) (rc w) X) → Q (some (vI 0)) σ2)
    (k1 : ∀ σ2 X2 lf2 op2 p2 q2 T2 n e, 0 < n → Sim G σ2 → RG σ2 (61 * wn w) (wf w) X2 lf2 op2 (nI (F + n), nI (C + e)) → FC (61 * wn w) (wf w) (rs w κ) (rd w κ) X2 lf2 op2 → PV (61 * wn w) (wf w) (rA w κ) (rc w) X2 lf2 op2 p2 q2 T2 → T2 ≤ 100000000 → sm op2 (wf w) + n = sm op (wf w) → cst (61 * wn w) (wf w) (rc w) X2 = cst (61 * wn w) (wf w) (rc w) X + e → Q (some (vI 1)) σ2) :
    MT d mX11_giveMore [vR 0 0, vI (nI κ)] σ Q := by
  have h1 := hW.1.1
  have h2 := hW.1.2.2.1
  have hop : ∀ f, f < wf w → wfk w f ≠ κ → op f = 0 := by
    intro f hf2 e
    have := fc.2 f hf2
    unfold rd at this
    rw [if_neg e] at this
    omega
  refine wX11_giveMore d _ σ Q (by omega) (meas_ok (d - 1) σ _ (by omega) hW pv hT hκ hs hg (fun σ1 z hz rx => ⟨rfl, ?_⟩))
  rintro _ rfl
  have fx := RXf.fx rx
  obtain ⟨s1, g1, l1, tD, tE, B, hbi⟩ := id hz
  refine best_ok d Q σ1 z hW hκ hz hop (fun hno => ?_) (fun b hb ho hE hmin => ?_) (wf w) 0 (by omega) none (fun _ f hf => absurd hf (Nat.not_lt_zero f)) (fun b y => nomatch y)
  · refine k0 σ1 s1 g1 (best_big (M := 200) (rend hbi pv (fun l f hl hf ra => (rx f hf).1 l hl ra) (fun l f hl hf xp => (rx f hf).2 l hl xp) hno) fc (fun l f hl hf _ => rc_le hW hl hf) ?_)
    have := rd_sum (κ := κ) hW
    omega
  · obtain ⟨k, kn, al, hk, hlf, hD⟩ := pth_end hbi pv fx hb ho hE
    refine g100_ok d Q σ1 z b k hW hz pv fx hb ho hE al hk hlf (fun n n0 n1 n2 n3 => ?_) k 0 (op b) (by omega) ho (Nat.le_refl _) (fun j hj => absurd hj (Nat.not_lt_zero j))
    -- it is given
    obtain ⟨-, m2, -, -, -⟩ := pth_L hbi pv fx hb ho hE 0 (fun j hj => absurd hj (Nat.not_lt_zero j))
    have au := AU.start hbi pv fx fc h2 hb ho hE n1
    have vb : vp_in (nI b) 10 := vp_in_nI (by omega) (by omega)
    have og := g1.2.1 b hb
    have bl : σ1.1 48 0 b = nI (Lk z.2.2.1 z.2.2.2 b 0) := (l1.2 b hb).2 hE
    have ej : (10 : Int32) * nI (Lk z.2.2.1 z.2.2.2 b 0) + nI b = nI (10 * Lk z.2.2.1 z.2.2.2 b 0 + b) := by rw [show (10 : Int32) = nI 10 from rfl, pk_mul, nI_add]
    have vj : vp_in (nI (10 * Lk z.2.2.1 z.2.2.2 b 0 + b)) 4880 := vp_in_nI (by omega) (by omega)
    have hx := g1.2.2.1 _ b m2 hb
    have bnd : X (10 * Lk z.2.2.1 z.2.2.2 b 0 + b) + n ≤ 10000 := by
      have c1 := au.2.1 b hb
      have c2 := rd_le (κ := κ) hW hb
      have c3 := sm_part (fun l => uF X (10 * Lk z.2.2.1 z.2.2.2 b 0 + b) (X (10 * Lk z.2.2.1 z.2.2.2 b 0 + b) + n) (10 * l + b)) m2
      rw [uF_s] at c3
      omega
    refine wX11_giveMore_188 d Q σ1 _ _ ?_
    rw [nI_clamp (show b < 2 ^ 31 by omega), og.1, pk_sub n1]
    refine ⟨vb, vb, ?_⟩
    rintro _ rfl _ rfl
    rw [up_ne (show (0 : Nat) ≠ 44 by decide), g1.2.2.2.1]
    refine ⟨vb, ?_⟩
    rintro _ rfl
    rw [up_f (show (57 : Nat) ≠ 56 by decide), up_ne (show (0 : Nat) ≠ 44 by decide), g1.2.2.2.2, up_ne (show (46 : Nat) ≠ 0 by decide), up_ne (show (46 : Nat) ≠ 44 by decide), (l1.2 b hb).1, up_ne (show (48 : Nat) ≠ 0 by decide), up_ne (show (48 : Nat) ≠ 0 by decide), up_ne (show (48 : Nat) ≠ 44 by decide), bl]
    refine ⟨vb, ?_⟩
    rintro _ rfl
    rw [ej, nI_clamp (show 10 * Lk z.2.2.1 z.2.2.2 b 0 + b < 2 ^ 31 by omega), up_ne (show (43 : Nat) ≠ 0 by decide), up_ne (show (43 : Nat) ≠ 0 by decide), up_ne (show (43 : Nat) ≠ 44 by decide), hx.1, pk_mul]
    dsimp only
    rw [nI_add, nI_add, nI_add]
    refine ⟨vj, vj, ?_⟩
    rintro _ rfl
    refine g255_ok d Q z b k n tD tE B hW hbi pv fx hb ho hE al hk n2 n3 (fun σ3 X3 s3 g3 au3 => ?_) k 0 _ _ (by omega) ((((s1.up rfl).up rfl).up rfl).up rfl) ((g1.uo (j := b) (v := op b - n) (by omega)).uc.ug bnd) ((((l1.upk (by decide) (by decide) (by decide) (by decide)).upk (by decide) (by decide) (by decide) (by decide)).upk (by decide) (by decide) (by decide) (by decide)).upk (by decide) (by decide) (by decide) (by decide)) au
    obtain ⟨fc3, ec⟩ := au3.fin hD n2
    refine k1 σ3 X3 _ _ _ _ (z.2.1 b) n (n * z.2.1 b) n0 s3 g3 fc3 (PV.aug hbi pv fx hb ho hE hmin au3.2.2.2.2 (fun l _ => ?_) (fun f _ => ?_)) (by omega) ?_ ec
    · by_cases y : l = Lk z.2.2.1 z.2.2.2 b k
      · rw [y, uF_s]; omega
      · rw [uF_n y]; exact Nat.le_refl _
    · by_cases y : f = b
      · rw [y, uF_s]; omega
      · rw [uF_n y]; exact Nat.le_refl _
    · have := sm_upd op (op b - n) hb
      have e : (fun k => if k = b then op b - n else op k) = uF op b (op b - n) := rfl
      rw [e] at this
      omega
end
