/-! orders: both -/
def G0 : Nat → GI := fun _ => (0, 0, 0)
def S0 : Nat → Nat := fun _ => 0
def L0 : Nat → LI := fun _ => (0, 0, 0, 0)
def cK (dr k i s : Nat) : Bool := cCL dr k i s || (Nat.beq k 8 || Nat.beq k 78 || Nat.beq k 79 || Nat.beq k 80) || (Nat.beq k 1 && Nat.beq s 4) || (Nat.beq k 6 && (Nat.beq s 6 || Nat.beq s 7))
def cR (rb k i s : Nat) : Bool := cL rb k i s || Nat.beq k 20 || (Nat.beq k 0 && (Nat.beq s 12 || Nat.beq s 11 || Nat.beq s 31))
theorem cCL_K {dr k i s : Nat} (h : cK dr k i s = false) : cCL dr k i s = false := by
  unfold cK at h
  simp only [Bool.or_eq_false_iff] at h
  exact h.1.1.1
theorem Fr.LK {dr : Nat} {σ σ2 : HS} (h : Fr (cCL dr) σ σ2) : Fr (cK dr) σ σ2 := h.mono (fun _ _ _ => cCL_K)
theorem cL_R {rb k i s : Nat} (h : cR rb k i s = false) : cL rb k i s = false := by
  unfold cR at h
  simp only [Bool.or_eq_false_iff] at h
  exact h.1.1
theorem Fr.LR {rb : Nat} {σ σ2 : HS} (h : Fr (cL rb) σ σ2) : Fr (cR rb) σ σ2 := h.mono (fun _ _ _ => cL_R)
theorem FrT.K {dr : Nat} {σ σ2 : HS} (h : FrT σ σ2) : Fr (cK dr) σ σ2 := by
  intro k i s hk
  unfold cK at hk
  simp only [Bool.or_eq_false_iff] at hk
  obtain ⟨⟨⟨_, ⟨⟨a, b⟩, e⟩, f⟩, _⟩, _⟩ := hk
  rw [h.2 k (fun z => by rw [z] at a; exact absurd a (by decide)) (fun z => by rw [z] at b; exact absurd b (by decide)) (fun z => by rw [z] at e; exact absurd e (by decide)) (fun z => by rw [z] at f; exact absurd f (by decide))]
theorem LNK.nil : LNK 0 S0 L0 G0 := ⟨rfl, fun l hl => absurd hl (Nat.not_lt_zero l)⟩
theorem cord {n r rb : Nat} {U : Nat → Nat} (d : Nat) (σ : HS) (Q : Option AV → HS → Prop) (hd : 27 ≤ d) (hx : TX σ n U) (hn : σ.1 1 0 4 = nI n) (hr : r < 2) (e1 : σ.1 6 0 4 = nI r) (e2 : σ.1 6 0 5 = nI (1 - r)) (hrb : rb < 2)
    (kOK : ∀ c j nt q G nl st L σ2, CXok c → cU c = U → cn c = n → crb c = rb → cdr c = 1 - r → CS c σ2 j nt q G → CLn c σ2 nl st L → nl ≤ 12 → st nl = q → LNK nl st L G → Fr (cK (1 - r)) σ σ2 → σ2.1 1 0 4 = 0 → RAl c 0 0 0 G0 0 S0 L0 j nt q G nl st L → Q (some (vI (nI nl))) (swp σ2 r (1 - r)))
    (kF : ∀ c j al σ2, CXok c → cU c = U → cn c = n → crb c = rb → cdr c = 1 - r → Fr (cK (1 - r)) σ σ2 → σ2.1 1 0 4 = 0 → σ2.1 6 0 6 = fkv c j al → σ2.1 6 0 7 = nI (tP c j) → RAF c 0 0 0 G0 0 S0 L0 j al → Q (some (vI (-1))) σ2) : MT d mX10_orders [vR 1 0] σ Q := by
  refine wX10_orders d σ Q (by omega) ?_
  rintro _ rfl _ rfl
  rw [hn]
  have hx1 : TX (up σ 1 0 4 0) n U := ⟨hx.1, fun j hj => by rw [up_ne (by decide)]; exact hx.2.1 j hj, hx.2.2⟩
  have f1 : Fr (cK (1 - r)) σ (up σ 1 0 4 0) := Fr.rf.up (by simp [cK])
  have t1 : (up σ 1 0 4 0).1 1 0 4 = 0 := up_same
  have r1 : (up σ 1 0 4 0).1 6 = σ.1 6 := up_ne (by decide)
  generalize up σ 1 0 4 0 = σ1 at hx1 f1 t1 r1 ⊢
  refine wX4_read (d - 1) _ σ1 _ (by omega) (scan_ok (d - 1 - 1) n U σ1 _ (by omega) hx1 (fun σ2 k tk ts sc ft => ⟨rfl, ?_⟩))
  have r2 : σ2.1 6 = σ.1 6 := (ft.2 6 (by decide) (by decide) (by decide) (by decide)).trans r1
  have t2 : σ2.1 1 0 4 = 0 := by rw [ft.2 1 (by decide) (by decide) (by decide) (by decide)]; exact t1
  rw [r2, e2, nI_clamp (by omega)]
  refine ⟨by omega, wX5_clear (d - 1 - 1) _ σ2 _ (by omega) ?_⟩
  rintro _ rfl _ rfl
  refine ⟨rfl, ?_⟩
  rintro _ rfl _ rfl _ rfl
  have f3 : Fr (cK (1 - r)) σ (up (up (up (up (up σ2 7 (1 - r) 3 0) 7 (1 - r) 1 0) 6 0 1 0) 6 0 2 0) 6 0 3 0) := (((((f1.tr ft.K).up (by simp [cK, cCL])).up (by simp [cK, cCL, cC])).up (by simp [cK, cCL, cC])).up (by simp [cK, cCL, cC])).up (by simp [cK, cCL, cC])
  have cx : CXok (U, (n, k, rb, 1 - r), tk) := ⟨ts, hx.1, hrb, by show 1 - r < 2; omega⟩
  have h3 : CS (U, (n, k, rb, 1 - r), tk) (up (up (up (up (up σ2 7 (1 - r) 3 0) 7 (1 - r) 1 0) 6 0 1 0) 6 0 2 0) 6 0 3 0) 0 0 0 G0 := by
    obtain ⟨z, z1, z2, z3, z4⟩ := sc
    refine ⟨⟨cx, ⟨z, z1, z2, ?_, fun j hj => ?_⟩, Nat.zero_le _, ?_, ?_⟩, ⟨?_, by omega⟩, ⟨?_, by omega⟩, fun j hj => absurd hj (Nat.not_lt_zero j)⟩
    · rw [up_ne (by decide), up_ne (by decide), up_ne (by decide), up_ne (by decide), up_ne (by decide)]; exact z3
    · obtain ⟨a, b, e⟩ := z4 j hj
      refine ⟨?_, ?_, ?_⟩
      · rw [up_ne (by decide), up_ne (by decide), up_ne (by decide), up_ne (by decide), up_ne (by decide)]; exact a
      · rw [up_ne (by decide), up_ne (by decide), up_ne (by decide), up_ne (by decide), up_ne (by decide)]; exact b
      · rw [up_ne (by decide), up_ne (by decide), up_ne (by decide), up_ne (by decide), up_ne (by decide)]; exact e
    · rw [up_f (by decide), up_f (by decide), up_same]; rfl
    · rw [up_f (by decide), up_f (by decide), up_f (by decide), up_ne (by decide), up_ne (by decide), r2]; exact e2
    · rw [up_f (by decide), up_same]; rfl
    · rw [up_ne (by decide), up_ne (by decide), up_ne (by decide)]
      exact up_same
  have l3 : CLn (U, (n, k, rb, 1 - r), tk) (up (up (up (up (up σ2 7 (1 - r) 3 0) 7 (1 - r) 1 0) 6 0 1 0) 6 0 2 0) 6 0 3 0) 0 S0 L0 := by
    refine ⟨?_, up_same, fun l hl => absurd hl (Nat.not_lt_zero l)⟩
    rw [up_ne (by decide), up_ne (by decide), up_ne (by decide), up_f (by decide)]
    exact up_same
  have t3 : (up (up (up (up (up σ2 7 (1 - r) 3 0) 7 (1 - r) 1 0) 6 0 1 0) 6 0 2 0) 6 0 3 0).1 1 0 4 = 0 := by
    rw [up_ne (by decide), up_ne (by decide), up_ne (by decide), up_ne (by decide), up_ne (by decide)]; exact t2
  have r3 : (up (up (up (up (up σ2 7 (1 - r) 3 0) 7 (1 - r) 1 0) 6 0 1 0) 6 0 2 0) 6 0 3 0).1 6 0 4 = nI r := by
    rw [up_f (by decide), up_f (by decide), up_f (by decide), up_ne (by decide), up_ne (by decide), r2]; exact e1
  generalize up (up (up (up (up σ2 7 (1 - r) 3 0) 7 (1 - r) 1 0) 6 0 1 0) 6 0 2 0) 6 0 3 0 = σ3 at f3 h3 l3 t3 r3 ⊢
  refine read_loop (d - 1) _ (by omega) 12 0 0 0 0 G0 S0 L0 σ3 (by omega) h3 l3 rfl LNK.nil (fun j nt2 q2 G2 nl2 st2 L2 σ4 c4 l4 n4 s4 ok4 f4 w4 r4 => ?_) (fun j al σ4 x c4 a4 ha4 f4 r4 hx4 => ?_)
  · have f4' : Fr (cCL (1 - r)) σ3 σ4 := f4
    refine r65_S (d - 1) σ4 _ (by omega) c4.1 w4 (r := r) ?_ hr l4.1 ⟨_, rfl, kOK _ j nt2 q2 G2 nl2 st2 L2 σ4 cx rfl rfl rfl rfl c4 l4 n4 s4 ok4 (f3.tr f4'.LK) ?_ r4⟩
    · rw [f4' 6 0 4 rfl]; exact r3
    · rw [f4' 1 0 4 rfl]; exact t3
  · have f4' : Fr (cCL (1 - r)) σ3 σ4 := f4
    refine r65_F (d - 1) σ4 x _ (by omega) c4 a4 ha4 hx4 ⟨_, rfl, kF _ j al _ cx rfl rfl rfl rfl (((f3.tr f4'.LK).up (by simp [cK])).up (by simp [cK])) ?_ ?_ up_same r4⟩
    · rw [up_ne (by decide), up_ne (by decide), f4' 1 0 4 rfl]; exact t3
    · rw [up_f (by decide), up_same]
/-- the text is taken from the tape -/
theorem mcopy (d n : Nat) (σ : HS) (Q : Option AV → HS → Prop) (hn : n ≤ 1000) (hs : σ.1 0 0 12 = nI n) (hd : 1 ≤ d)
    (k : (∀ σ_10 : HS, σ_10 = up (upB σ 20 0 0 n (fun j => i2b (σ.1 19 0 j))) 0 0 11 0 → (∀ σ_12 : HS, σ_12 = up σ_10 0 0 16 0 → (∀ σ_14 : HS, σ_14 = up σ_12 0 0 31 (1 - (σ_12.1 0 0 30)) → (vp_in (σ_14.1 0 0 31) 2 ∧ ∀ σ_18 : HS, σ_18 = up σ_14 21 0 (σ_14.1 0 0 31).toNatClampNeg 0 → (∀ σ_19 : HS, σ_19 = up σ_18 0 0 32 0 → (∀ σ_21 : HS, σ_21 = up σ_19 0 0 33 0 → (MT (d - 1) mX11_next [vR 0 0] σ_21 (fun r σ_23 => r = none ∧ atX11_orders_90 d Q σ_23))))))))) :
    ∀ m j, j + m = n → atX11_orders_20 d Q (upB σ 20 0 0 j (fun j => i2b (σ.1 19 0 j))) (nI j) := by
  intro m
  induction m with
  | zero =>
    intro j hj
    have e : j = n := by omega
    subst e
    refine wX11_orders_20 d Q _ _ hd ⟨fun _ => k, fun y => absurd ?_ y⟩
    rw [upB_ne (by decide), hs]
    exact nI_le (Nat.le_refl _) (by omega)
  | succ m ih =>
    intro j hj
    refine wX11_orders_20 d Q _ _ hd ⟨fun y => ?_, fun _ => ⟨vp_in_nI (by omega) (by omega), vp_in_nI (by omega) (by omega), ?_⟩⟩
    · rw [upB_ne (by decide), hs] at y
      exact absurd y (nI_ge (by omega) (by omega))
    rintro _ rfl _ rfl
    rw [nI_1, nI_clamp (by omega), upB_ne (show (19 : Nat) ≠ 20 by decide)]
    have := ih (j + 1) (by omega)
    rw [← upB_succ, Nat.zero_add] at this
    exact this
theorem mord {c : CX} {b : Nat} (d : Nat) (σ : HS) (Q : Option AV → HS → Prop) (hd : 22 ≤ d) (hc : CXok c) (hb : b < 2) (ht : σ.1 0 0 11 = nI (cn c)) (hB : ∀ j, j < cn c → BY (σ.1 19 0 j) (cU c j) ∧ i2b (σ.1 19 0 j) = σ.1 19 0 j) (hU : ∀ j, cn c ≤ j → cU c j = 0) (hbk : σ.1 0 0 30 = nI b) (hrb : crb c = 1 - b)
    (k : ∀ σ2, RS c σ2 0 0 0 G0 → RLn c σ2 0 S0 L0 → Fr (cR (crb c)) σ σ2 → σ2.1 0 0 11 = 0 → atX11_orders_90 d Q σ2) : MT d mX11_orders [vR 0 0] σ Q := by
  have hn := hc.2.1
  refine wX11_orders d σ Q ?_
  rintro _ rfl _ rfl _ rfl
  rw [up_f (show (11 : Nat) ≠ 14 by decide), up_f (show (11 : Nat) ≠ 13 by decide), ht]
  have f1 : Fr (cR (crb c)) σ (up (up (up σ 0 0 13 0) 0 0 14 (-1)) 0 0 12 (nI (cn c))) := ((Fr.rf.up (by simp [cR, cL, cE, cT])).up (by simp [cR, cL, cE, cT])).up (by simp [cR])
  have s1 : (up (up (up σ 0 0 13 0) 0 0 14 (-1)) 0 0 12 (nI (cn c))).1 0 0 12 = nI (cn c) := up_same
  have q1 : (up (up (up σ 0 0 13 0) 0 0 14 (-1)) 0 0 12 (nI (cn c))).1 0 0 13 = 0 ∧ (up (up (up σ 0 0 13 0) 0 0 14 (-1)) 0 0 12 (nI (cn c))).1 0 0 14 = -1 := by
    refine ⟨?_, ?_⟩
    · rw [up_f (by decide), up_f (by decide), up_same]
    · rw [up_f (by decide), up_same]
  have b1 : (up (up (up σ 0 0 13 0) 0 0 14 (-1)) 0 0 12 (nI (cn c))).1 0 0 30 = nI b := by
    rw [up_f (by decide), up_f (by decide), up_f (by decide)]; exact hbk
  have tp1 : (up (up (up σ 0 0 13 0) 0 0 14 (-1)) 0 0 12 (nI (cn c))).1 19 = σ.1 19 := by
    rw [up_ne (by decide), up_ne (by decide), up_ne (by decide)]
  generalize up (up (up σ 0 0 13 0) 0 0 14 (-1)) 0 0 12 (nI (cn c)) = σ1 at f1 s1 q1 b1 tp1 ⊢
  have key := mcopy d (cn c) σ1 Q hn s1 (by omega) ?_ (cn c) 0 (by omega)
  · rw [upB_0] at key
    exact key
  rintro _ rfl _ rfl _ rfl
  have f2 : Fr (cR (crb c)) σ (upB σ1 20 0 0 (cn c) (fun j => i2b (σ1.1 19 0 j))) := by
    intro k i s hk
    have : k ≠ 20 := fun z => by
      rw [z] at hk
      simp [cR] at hk
    rw [upB_ne this]
    exact f1 k i s hk
  have x2 : ∀ j, j < cn c → BY ((upB σ1 20 0 0 (cn c) (fun j => i2b (σ1.1 19 0 j))).1 20 0 j) (cU c j) := by
    intro j hj
    rw [upB_k, if_pos ⟨rfl, by omega, by omega⟩, Nat.sub_zero, tp1, (hB j hj).2]
    exact (hB j hj).1
  have m2 : (upB σ1 20 0 0 (cn c) (fun j => i2b (σ1.1 19 0 j))).1 0 = σ1.1 0 := upB_ne (by decide)
  generalize upB σ1 20 0 0 (cn c) (fun j => i2b (σ1.1 19 0 j)) = σ2 at f2 x2 m2 ⊢
  have er : (1 : Int32) - (up (up σ2 0 0 11 0) 0 0 16 0).1 0 0 30 = nI (crb c) := by
    rw [up_f (by decide), up_f (by decide), m2, b1, hrb]
    exact pk_sub (a := 1) (b := b) (by omega)
  rw [er, up_same, nI_clamp (by have := hc.2.2.1; omega)]
  refine ⟨vp_in_nI hc.2.2.1 (by omega), ?_⟩
  rintro _ rfl _ rfl _ rfl
  have f4 : Fr (cR (crb c)) σ (up (up (up (up (up (up σ2 0 0 11 0) 0 0 16 0) 0 0 31 (nI (crb c))) 21 0 (crb c) 0) 0 0 32 0) 0 0 33 0) := (((((f2.up (by simp [cR])).up (by simp [cR, cL, cE, cT])).up (by simp [cR])).up (by simp [cR, cL])).up (by simp [cR, cL, cE, cT])).up (by simp [cR, cL, cE, cT])
  have xs : RX (up (up (up (up (up (up σ2 0 0 11 0) 0 0 16 0) 0 0 31 (nI (crb c))) 21 0 (crb c) 0) 0 0 32 0) 0 0 33 0) (cn c) (cU c) := by
    refine ⟨hn, ?_, fun j hj => ?_, hU⟩
    · rw [up_f (by decide), up_f (by decide), up_ne (by decide), up_f (by decide), up_f (by decide), up_f (by decide), m2]; exact s1
    · rw [up_ne (by decide), up_ne (by decide), up_ne (by decide), up_ne (by decide), up_ne (by decide), up_ne (by decide)]; exact x2 j hj
  have es : (up (up (up (up (up (up σ2 0 0 11 0) 0 0 16 0) 0 0 31 (nI (crb c))) 21 0 (crb c) 0) 0 0 32 0) 0 0 33 0).1 0 0 16 = nI 0 := by
    rw [up_f (by decide), up_f (by decide), up_ne (by decide), up_f (by decide), up_same]; rfl
  have a1 : (up (up (up (up (up (up σ2 0 0 11 0) 0 0 16 0) 0 0 31 (nI (crb c))) 21 0 (crb c) 0) 0 0 32 0) 0 0 33 0).1 0 0 33 = nI 0 := up_same
  have a2 : (up (up (up (up (up (up σ2 0 0 11 0) 0 0 16 0) 0 0 31 (nI (crb c))) 21 0 (crb c) 0) 0 0 32 0) 0 0 33 0).1 0 0 32 = nI 0 := by
    rw [up_f (by decide), up_same]; rfl
  have a3 : (up (up (up (up (up (up σ2 0 0 11 0) 0 0 16 0) 0 0 31 (nI (crb c))) 21 0 (crb c) 0) 0 0 32 0) 0 0 33 0).1 0 0 31 = nI (crb c) := by
    rw [up_f (by decide), up_f (by decide), up_ne (by decide), up_same]
  have a4 : (up (up (up (up (up (up σ2 0 0 11 0) 0 0 16 0) 0 0 31 (nI (crb c))) 21 0 (crb c) 0) 0 0 32 0) 0 0 33 0).1 0 0 11 = 0 := by
    rw [up_f (by decide), up_f (by decide), up_ne (by decide), up_f (by decide), up_f (by decide), up_same]
  have a5 : (up (up (up (up (up (up σ2 0 0 11 0) 0 0 16 0) 0 0 31 (nI (crb c))) 21 0 (crb c) 0) 0 0 32 0) 0 0 33 0).1 21 0 (crb c) = nI 0 := by
    rw [up_ne (by decide), up_ne (by decide), up_same]; rfl
  have a6 : (up (up (up (up (up (up σ2 0 0 11 0) 0 0 16 0) 0 0 31 (nI (crb c))) 21 0 (crb c) 0) 0 0 32 0) 0 0 33 0).1 0 0 13 = 0 ∧ (up (up (up (up (up (up σ2 0 0 11 0) 0 0 16 0) 0 0 31 (nI (crb c))) 21 0 (crb c) 0) 0 0 32 0) 0 0 33 0).1 0 0 14 = -1 := by
    refine ⟨?_, ?_⟩
    · rw [up_f (by decide), up_f (by decide), up_ne (by decide), up_f (by decide), up_f (by decide), up_f (by decide), m2]; exact q1.1
    · rw [up_f (by decide), up_f (by decide), up_ne (by decide), up_f (by decide), up_f (by decide), up_f (by decide), m2]; exact q1.2
  generalize up (up (up (up (up (up σ2 0 0 11 0) 0 0 16 0) 0 0 31 (nI (crb c))) 21 0 (crb c) 0) 0 0 32 0) 0 0 33 0 = σ4 at f4 xs es a1 a2 a3 a4 a5 a6 ⊢
  refine next_ok (d - 1) (cn c) 0 _ _ _ _ (cU c) σ4 _ (by omega) xs es (TSK_tk (i := 0) hc.1 (Nat.zero_le _)) (fun σ5 t5 f5 => ⟨rfl, k σ5 ⟨hc, xs.fr f5 rfl (fun _ => rfl), Nat.zero_le _, t5, ⟨?_, by omega⟩, ⟨?_, by omega⟩, ⟨?_, ?_⟩, ?_, fun j hj => absurd hj (Nat.not_lt_zero j)⟩ ⟨?_, fun l hl => absurd hl (Nat.not_lt_zero l)⟩ (f4.tr f5.NE.EL.LR) ?_⟩)
  · rw [f5 0 0 33 rfl]; exact a1
  · rw [f5 0 0 32 rfl]; exact a2
  · rw [f5 0 0 13 rfl]; exact a6.1
  · rw [f5 0 0 14 rfl]; exact a6.2
  · rw [f5 0 0 31 rfl]; exact a3
  · rw [f5 21 0 (crb c) rfl]; exact a5
  · rw [f5 0 0 11 rfl]; exact a4
