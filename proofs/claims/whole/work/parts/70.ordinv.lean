/-! orders: the invariant stands -/
def cO (r b k i s : Nat) : Bool := cK (1 - r) k i s || cR (1 - b) k i s || (Nat.beq k 6 && (Nat.beq s 4 || Nat.beq s 5)) || (Nat.beq k 0 && Nat.beq s 30)
def cKR (r b k i s : Nat) : Bool := cK (1 - r) k i s || cR (1 - b) k i s
theorem cO_1 {r b k i s : Nat} (h : cO r b k i s = false) : cKR r b k i s = false := by
  unfold cO at h
  unfold cKR
  simp only [Bool.or_eq_false_iff] at h ⊢
  exact h.1.1
theorem cKR_1 {r b k i s : Nat} (h : cKR r b k i s = false) : cK (1 - r) k i s = false := by
  unfold cKR at h
  simp only [Bool.or_eq_false_iff] at h
  exact h.1
theorem cKR_2 {r b k i s : Nat} (h : cKR r b k i s = false) : cR (1 - b) k i s = false := by
  unfold cKR at h
  simp only [Bool.or_eq_false_iff] at h
  exact h.2
theorem Fr.KO {r b : Nat} {σ σ2 : HS} (h : Fr (cKR r b) σ σ2) : Fr (cO r b) σ σ2 := h.mono (fun _ _ _ => cO_1)
theorem Fr.K1 {r b : Nat} {σ σ2 : HS} (h : Fr (cK (1 - r)) σ σ2) : Fr (cKR r b) σ σ2 := h.mono (fun _ _ _ => cKR_1)
theorem Fr.K2 {r b : Nat} {σ σ2 : HS} (h : Fr (cR (1 - b)) σ σ2) : Fr (cKR r b) σ σ2 := h.mono (fun _ _ _ => cKR_2)
theorem ord_inv {σ σ2 : HS} {r b : Nat} (h : Fr (cO r b) σ σ2) (hI : Inv σ) (g9 : I9 σ2) (g10 : I10 σ2) (g11 : I11 σ2) : Inv σ2 := by
  have Ee_kCarriers : σ2.1 5 = σ.1 5 := funext fun i => funext fun s => h 5 i s rfl
  have Ee_kCarriers_age : σ2.1 68 = σ.1 68 := funext fun i => funext fun s => h 68 i s rfl
  have Ee_kCarriers_arrival : σ2.1 70 = σ.1 70 := funext fun i => funext fun s => h 70 i s rfl
  have Ee_kCarriers_kind : σ2.1 67 = σ.1 67 := funext fun i => funext fun s => h 67 i s rfl
  have Ee_kCarriers_measures : σ2.1 69 = σ.1 69 := funext fun i => funext fun s => h 69 i s rfl
  have Ee_kCarriers_to : σ2.1 66 = σ.1 66 := funext fun i => funext fun s => h 66 i s rfl
  have Ee_kDaysRow : σ2.1 61 = σ.1 61 := funext fun i => funext fun s => h 61 i s rfl
  have Ee_kFeasts : σ2.1 9 = σ.1 9 := funext fun i => funext fun s => h 9 i s rfl
  have Ee_kFeasts_kind : σ2.1 83 = σ.1 83 := funext fun i => funext fun s => h 83 i s rfl
  have Ee_kFeasts_measures : σ2.1 84 = σ.1 84 := funext fun i => funext fun s => h 84 i s rfl
  have Ee_kFeasts_month : σ2.1 82 = σ.1 82 := funext fun i => funext fun s => h 82 i s rfl
  have Ee_kFeasts_town : σ2.1 81 = σ.1 81 := funext fun i => funext fun s => h 81 i s rfl
  have Ee_kLand : σ2.1 2 = σ.1 2 := funext fun i => funext fun s => h 2 i s rfl
  have Ee_kLand_keeping : σ2.1 62 = σ.1 62 := funext fun i => funext fun s => h 62 i s rfl
  have Ee_kLedger_amount : σ2.1 101 = σ.1 101 := funext fun i => funext fun s => h 101 i s rfl
  have Ee_kLedger_keeper : σ2.1 98 = σ.1 98 := funext fun i => funext fun s => h 98 i s rfl
  have Ee_kLedger_month : σ2.1 100 = σ.1 100 := funext fun i => funext fun s => h 100 i s rfl
  have Ee_kLedger_subject : σ2.1 99 = σ.1 99 := funext fun i => funext fun s => h 99 i s rfl
  have Ee_kLedger_toldIn : σ2.1 102 = σ.1 102 := funext fun i => funext fun s => h 102 i s rfl
  have Ee_kLedger_untoldIn : σ2.1 103 = σ.1 103 := funext fun i => funext fun s => h 103 i s rfl
  have Ee_kLots : σ2.1 65 = σ.1 65 := funext fun i => funext fun s => h 65 i s rfl
  have Ee_kM_cCount : σ2.1 54 = σ.1 54 := funext fun i => funext fun s => h 54 i s rfl
  have Ee_kM_cKeeper : σ2.1 50 = σ.1 50 := funext fun i => funext fun s => h 50 i s rfl
  have Ee_kM_cKind : σ2.1 52 = σ.1 52 := funext fun i => funext fun s => h 52 i s rfl
  have Ee_kM_cMonth : σ2.1 53 = σ.1 53 := funext fun i => funext fun s => h 53 i s rfl
  have Ee_kM_cTold : σ2.1 55 = σ.1 55 := funext fun i => funext fun s => h 55 i s rfl
  have Ee_kM_cTown : σ2.1 51 = σ.1 51 := funext fun i => funext fun s => h 51 i s rfl
  have Ee_kM_cUntold : σ2.1 56 = σ.1 56 := funext fun i => funext fun s => h 56 i s rfl
  have Ee_kM_days : σ2.1 15 = σ.1 15 := funext fun i => funext fun s => h 15 i s rfl
  have Ee_kM_fKind : σ2.1 40 = σ.1 40 := funext fun i => funext fun s => h 40 i s rfl
  have Ee_kM_fMeasures : σ2.1 41 = σ.1 41 := funext fun i => funext fun s => h 41 i s rfl
  have Ee_kM_fMonth : σ2.1 39 = σ.1 39 := funext fun i => funext fun s => h 39 i s rfl
  have Ee_kM_fTown : σ2.1 38 = σ.1 38 := funext fun i => funext fun s => h 38 i s rfl
  have Ee_kM_handsOf : σ2.1 49 = σ.1 49 := funext fun i => funext fun s => h 49 i s rfl
  have Ee_kM_keeps : σ2.1 16 = σ.1 16 := funext fun i => funext fun s => h 16 i s rfl
  have Ee_kM_lots : σ2.1 17 = σ.1 17 := funext fun i => funext fun s => h 17 i s rfl
  have Ee_kM_people : σ2.1 13 = σ.1 13 := funext fun i => funext fun s => h 13 i s rfl
  have Ee_kM_room : σ2.1 12 = σ.1 12 := funext fun i => funext fun s => h 12 i s rfl
  have Ee_kM_sums : σ2.1 18 = σ.1 18 := funext fun i => funext fun s => h 18 i s rfl
  have Ee_kM_tape : σ2.1 19 = σ.1 19 := funext fun i => funext fun s => h 19 i s rfl
  have Ee_kM_tens : σ2.1 14 = σ.1 14 := funext fun i => funext fun s => h 14 i s rfl
  have Ee_kM_wAge : σ2.1 35 = σ.1 35 := funext fun i => funext fun s => h 35 i s rfl
  have Ee_kM_wComes : σ2.1 37 = σ.1 37 := funext fun i => funext fun s => h 37 i s rfl
  have Ee_kM_wKind : σ2.1 34 = σ.1 34 := funext fun i => funext fun s => h 34 i s rfl
  have Ee_kM_wMeasures : σ2.1 36 = σ.1 36 := funext fun i => funext fun s => h 36 i s rfl
  have Ee_kM_wTown : σ2.1 33 = σ.1 33 := funext fun i => funext fun s => h 33 i s rfl
  have Ee_kS_tape : σ2.1 58 = σ.1 58 := funext fun i => funext fun s => h 58 i s rfl
  have Ee_kTally : σ2.1 4 = σ.1 4 := funext fun i => funext fun s => h 4 i s rfl
  have Ee_kTown : σ2.1 3 = σ.1 3 := funext fun i => funext fun s => h 3 i s rfl
  have Ee_kTown_held : σ2.1 63 = σ.1 63 := funext fun i => funext fun s => h 63 i s rfl
  have Ee_kLedger_f_Ledger_size : σ2.1 11 0 6 = σ.1 11 0 6 := h 11 0 6 rfl
  have Ee_kM_f_M_counts : σ2.1 0 0 68 = σ.1 0 0 68 := h 0 0 68 rfl
  have Ee_kM_f_M_feasts : σ2.1 0 0 55 = σ.1 0 0 55 := h 0 0 55 rfl
  have Ee_kM_f_M_handsAll : σ2.1 0 0 59 = σ.1 0 0 59 := h 0 0 59 rfl
  have Ee_kM_f_M_loads : σ2.1 0 0 43 = σ.1 0 0 43 := h 0 0 43 rfl
  have Ee_kM_f_M_month : σ2.1 0 0 8 = σ.1 0 0 8 := h 0 0 8 rfl
  have Ee_kM_f_M_towns : σ2.1 0 0 7 = σ.1 0 0 7 := h 0 0 7 rfl
  obtain ⟨h1, h2, h3, h4, h5, h6, h7, h8, h9, h10, h11, h12, h13, h14⟩ := hI
  refine ⟨?_, ?_, ?_, ?_, ?_, ?_, ?_, ?_, ?_, ?_, ?_, ?_, ?_, ?_⟩
  · simp only [I1, Ee_kM_f_M_towns, Ee_kLand, Ee_kM_room]
    exact h1
  · simp only [I2, Ee_kM_f_M_month, Ee_kLand]
    exact h2
  · simp only [I3, Ee_kM_room, Ee_kM_people, Ee_kM_tens, Ee_kTown]
    exact h3
  · simp only [I4, Ee_kDaysRow, Ee_kM_days]
    exact h4
  · simp only [I5, Ee_kLand_keeping, Ee_kM_keeps]
    exact h5
  · simp only [I6, Ee_kM_lots, Ee_kLots, Ee_kTown_held, Ee_kM_room]
    exact h6
  · simp only [I7, Ee_kTally, Ee_kM_sums]
    exact h7
  · simp only [I8, Ee_kM_f_M_loads, Ee_kCarriers, Ee_kCarriers_to, Ee_kM_wTown, Ee_kCarriers_kind, Ee_kM_wKind, Ee_kCarriers_age, Ee_kM_wAge, Ee_kCarriers_measures, Ee_kM_wMeasures, Ee_kCarriers_arrival, Ee_kM_wComes, Ee_kM_f_M_towns, Ee_kM_f_M_month]
    exact h8
  · exact g9
  · exact g10
  · exact g11
  · simp only [I12, Ee_kM_f_M_feasts, Ee_kFeasts, Ee_kFeasts_town, Ee_kM_fTown, Ee_kFeasts_month, Ee_kM_fMonth, Ee_kFeasts_kind, Ee_kM_fKind, Ee_kFeasts_measures, Ee_kM_fMeasures, Ee_kM_f_M_towns]
    exact h12
  · simp only [I13, Ee_kLand, Ee_kM_f_M_handsAll, Ee_kTown, Ee_kM_handsOf]
    exact h13
  · simp only [I14, Ee_kM_f_M_counts, Ee_kLedger_f_Ledger_size, Ee_kM_cKeeper, Ee_kLedger_keeper, Ee_kM_f_M_towns, Ee_kM_cTown, Ee_kM_cKind, Ee_kLedger_subject, Ee_kLedger_month, Ee_kM_cMonth, Ee_kLedger_amount, Ee_kM_cCount, Ee_kLedger_toldIn, Ee_kM_cTold, Ee_kLedger_untoldIn, Ee_kM_cUntold]
    exact h14

theorem two_ne {r : Nat} (h : r < 2) : Nat.beq r (1 - r) = false := by
  have : r = 0 ∨ r = 1 := by omega
  rcases this with rfl | rfl <;> rfl
theorem two_ne' {r : Nat} (h : r < 2) : Nat.beq r (1 - r) = false := two_ne h
theorem cKR_o {r b k s : Nat} (hr : r < 2) (hk : coK k = true ∨ k = 7 ∨ k = 71) : cKR r b k r s = false := by
  have e := two_ne hr
  rcases hk with hk | rfl | rfl
  · unfold coK at hk
    simp only [Bool.or_eq_true, Nat.beq_eq] at hk
    rcases hk with (((rfl | rfl) | rfl) | rfl) | rfl <;> simp only [cKR, cK, cCL, cC, coK, cR, cL, cE, cT, lnK, e, Bool.and_false, Bool.or_false, Bool.false_and, Bool.false_or] <;> rfl
  · simp only [cKR, cK, cCL, cC, coK, cR, cL, cE, cT, lnK, e, Bool.and_false, Bool.or_false, Bool.false_and, Bool.false_or]; rfl
  · simp only [cKR, cK, cCL, cC, coK, cR, cL, cE, cT, lnK, e, Bool.and_false, Bool.or_false, Bool.false_and, Bool.false_or]; rfl
theorem cKR_l {r b k l : Nat} (hb : b < 2) (hl : l < 12) (hk : lnK k = true) : cKR r b k 0 (12 * b + l) = false := by
  have e : decide (12 * (1 - b) ≤ 12 * b + l ∧ 12 * b + l < 12 * (1 - b) + 12) = false := decide_eq_false (by omega)
  unfold lnK at hk
  simp only [Bool.or_eq_true, Nat.beq_eq] at hk
  rcases hk with ((((rfl | rfl) | rfl) | rfl) | rfl) | rfl <;> simp only [cKR, cK, cCL, cC, coK, cR, cL, cE, cT, lnK, e, Bool.and_false, Bool.or_false, Bool.false_and, Bool.false_or] <;> rfl
theorem cKR_m {r b : Nat} (hb : b < 2) : cKR r b 21 0 b = false := by
  have e := two_ne hb
  simp only [cKR, cK, cCL, cC, coK, cR, cL, cE, cT, lnK, e, Bool.and_false, Bool.or_false, Bool.false_and, Bool.false_or]; rfl
theorem cKR_c {r b k q : Nat} (hb : b < 2) (hq : q < 1000) (hk : k = 28 ∨ k = 29 ∨ k = 30) : cKR r b k 0 (1000 * b + q) = false := by
  have e : decide (1000 * (1 - b) ≤ 1000 * b + q ∧ 1000 * b + q < 1000 * (1 - b) + 1000) = false := decide_eq_false (by omega)
  rcases hk with rfl | rfl | rfl <;> simp only [cKR, cK, cCL, cC, coK, cR, cL, cE, cT, lnK, e, Bool.and_false, Bool.or_false, Bool.false_and, Bool.false_or] <;> rfl
/-- the invariant's lines, at a ruling r and a bank b -/
def J10 (σ : HS) (r b : Nat) : Prop := ∃ (nl : Nat) (st : Nat → Nat), nl ≤ 12 ∧ σ.1 7 r 3 = nI nl ∧ σ.1 21 0 b = nI nl ∧ st 0 = 0 ∧ st nl ≤ 500 ∧
  (∀ l, l < nl → st l ≤ st (l + 1) ∧ st (l + 1) ≤ 500 ∧ σ.1 73 r l = nI (st (l + 1)) ∧ σ.1 22 0 (12 * b + l) = nI (st l) ∧ σ.1 23 0 (12 * b + l) = nI (st (l + 1)) ∧
    σ.1 74 r l = σ.1 24 0 (12 * b + l) ∧ isN (σ.1 24 0 (12 * b + l)) 999999 ∧ σ.1 75 r l = σ.1 25 0 (12 * b + l) ∧ (∃ k, k < 3 ∧ σ.1 25 0 (12 * b + l) = nI k) ∧
    σ.1 76 r l = σ.1 26 0 (12 * b + l) ∧ isN (σ.1 26 0 (12 * b + l)) 7 ∧ σ.1 77 r l = σ.1 27 0 (12 * b + l) ∧ isN (σ.1 27 0 (12 * b + l)) 7 ∧ σ.1 26 0 (12 * b + l) ≠ σ.1 27 0 (12 * b + l) ∧
    ∃ hg : Nat → Nat, hg (st l) = 0 ∧ hg (st (l + 1)) ≤ 1 ∧ ∀ q, st l ≤ q → q < st (l + 1) → mvR (σ.1 28 0 (1000 * b + q)) (hg q) (hg (q + 1))) ∧
  ∀ q, q < st nl → encR (σ.1 28 0 (1000 * b + q)) (σ.1 29 0 (1000 * b + q)) (σ.1 30 0 (1000 * b + q)) (σ.1 71 r q)
theorem I10.j {σ : HS} (h : I10 σ) : ∃ r b, r < 2 ∧ b < 2 ∧ σ.1 6 0 4 = nI r ∧ σ.1 6 0 5 = nI (1 - r) ∧ σ.1 0 0 30 = nI b ∧ J10 σ r b := by
  obtain ⟨r, b, nl, st, a1, a2, a3, a4, a5, a6, a7, a8, a9, a10, a11, a12⟩ := h
  exact ⟨r, b, a1, a2, a4, a5, a6, nl, st, a3, a7, a8, a9, a10, a11, a12⟩
theorem J10.i {σ : HS} {r b : Nat} (h1 : r < 2) (h2 : b < 2) (h3 : σ.1 6 0 4 = nI r) (h4 : σ.1 6 0 5 = nI (1 - r)) (h5 : σ.1 0 0 30 = nI b) (h : J10 σ r b) : I10 σ := by
  obtain ⟨nl, st, a3, a7, a8, a9, a10, a11, a12⟩ := h
  exact ⟨r, b, nl, st, h1, h2, a3, h3, h4, h5, a7, a8, a9, a10, a11, a12⟩
theorem J10.fr {σ σ2 : HS} {r b : Nat} (hr : r < 2) (hb : b < 2) (f : Fr (cKR r b) σ σ2) (h : J10 σ r b) : J10 σ2 r b := by
  obtain ⟨nl, st, a3, a7, a8, a9, a10, a11, a12⟩ := h
  refine ⟨nl, st, a3, ?_, ?_, a9, a10, fun l hl => ?_, fun q hq => ?_⟩
  · rw [f 7 r 3 (cKR_o hr (Or.inr (Or.inl rfl)))]; exact a7
  · rw [f 21 0 b (cKR_m hb)]; exact a8
  · rw [f 73 r l (cKR_o hr (Or.inl rfl)), f 74 r l (cKR_o hr (Or.inl rfl)), f 75 r l (cKR_o hr (Or.inl rfl)), f 76 r l (cKR_o hr (Or.inl rfl)), f 77 r l (cKR_o hr (Or.inl rfl)),
      f 22 0 (12 * b + l) (cKR_l hb (by omega) rfl), f 23 0 (12 * b + l) (cKR_l hb (by omega) rfl), f 24 0 (12 * b + l) (cKR_l hb (by omega) rfl), f 25 0 (12 * b + l) (cKR_l hb (by omega) rfl), f 26 0 (12 * b + l) (cKR_l hb (by omega) rfl), f 27 0 (12 * b + l) (cKR_l hb (by omega) rfl)]
    obtain ⟨b1, b2, b3, b4, b5, b6, b7, b8, b9, b10, b11, b12, b13, b14, hg, g1, g2, g3⟩ := a11 l hl
    refine ⟨b1, b2, b3, b4, b5, b6, b7, b8, b9, b10, b11, b12, b13, b14, hg, g1, g2, fun q q1 q2 => ?_⟩
    rw [f 28 0 (1000 * b + q) (cKR_c hb (by omega) (Or.inl rfl))]
    exact g3 q q1 q2
  · rw [f 28 0 (1000 * b + q) (cKR_c hb (by omega) (Or.inl rfl)), f 29 0 (1000 * b + q) (cKR_c hb (by omega) (Or.inr (Or.inl rfl))), f 30 0 (1000 * b + q) (cKR_c hb (by omega) (Or.inr (Or.inr rfl))), f 71 r q (cKR_o hr (Or.inr (Or.inr rfl)))]
    exact a12 q hq
theorem J10.new {c : CX} {σ : HS} {nl q : Nat} {st : Nat → Nat} {L : Nat → LI} {G : Nat → GI} (hq : q ≤ 440) (hn : nl ≤ 12) (hst : st nl = q) (ok : LNK nl st L G) (hS : ∀ j, j < q → gOK (G j) ∧ σ.1 71 (cdr c) j = nI (gE (G j))) (hM : ∀ j, j < q → RM σ (1000 * crb c + j) (G j)) (hC : ∀ l, l < nl → CLa c σ l (st (l + 1)) (L l)) (hL : σ.1 7 (cdr c) 3 = nI nl) (hR : RLn c σ nl st L) : J10 σ (cdr c) (crb c) := by
  refine ⟨nl, st, hn, hL, hR.1, ok.1, by omega, fun l hl => ?_, fun x hx => enc_of (hM x (by omega)) (hS x (by omega)).1 (hS x (by omega)).2⟩
  obtain ⟨o1, o2, ⟨i1, i2, i3, i4, i5⟩, hh, o4, hg, g1, g2, g3⟩ := ok.2 l hl
  obtain ⟨c1, c2, c3, c4, c5⟩ := hC l hl
  obtain ⟨r1, r2, r3, r4, r5, r6⟩ := hR.2 l hl
  refine ⟨o1, by omega, c1, r1, r2, c2.trans r3.symm, ⟨_, i1, r3⟩, c3.trans r4.symm, ⟨_, i2, r4⟩, c4.trans r5.symm, ⟨_, by omega, r5⟩, c5.trans r6.symm, ⟨_, by omega, r6⟩, ?_, hg, g1, by omega, fun x x1 x2 => ?_⟩
  · rw [r5, r6]
    exact fun z => i5 ((nI_eq (by omega) (by omega)).mp z)
  · rw [(hM x (by omega)).1]
    exact g3 x x1 x2
theorem st_orders : Step mX10_orders mX11_orders [] := by
  intro σ hI
  have h9 : I9 σ := hI.2.2.2.2.2.2.2.2.1
  have h10 : I10 σ := hI.2.2.2.2.2.2.2.2.2.1
  obtain ⟨n, hn, t1, t2, t3⟩ := h9
  obtain ⟨r, b, hr, hb, e1, e2, e3, j10⟩ := h10.j
  have hU0 : ∀ j, ∃ u, (j < n → BY (σ.1 58 0 j) u) ∧ (n ≤ j → u = 0) := by
    intro j
    by_cases z : j < n
    · obtain ⟨u, hu⟩ := BY.of (x := σ.1 58 0 j) (by rw [(t3 j z).1]; exact (t3 j z).2)
      exact ⟨u, fun _ => hu, fun y => by omega⟩
    · exact ⟨0, fun y => absurd y z, fun _ => rfl⟩
  obtain ⟨U, hU⟩ := Classical.axiomOfChoice hU0
  have hx : TX σ n U := ⟨hn, fun j hj => (hU j).1 hj, fun j hj => (hU j).2 hj⟩
  have kmB : ∀ {c : CX} {σ1 : HS}, cU c = U → cn c = n → σ1.1 19 = σ.1 19 → ∀ j, j < cn c → BY (σ1.1 19 0 j) (cU c j) ∧ i2b (σ1.1 19 0 j) = σ1.1 19 0 j := by
    intro c σ1 q1 q2 q3 j hj
    rw [q2] at hj
    rw [q3, q1]
    refine ⟨?_, (t3 j hj).2⟩
    have := (hU j).1 hj
    rw [(t3 j hj).1] at this
    exact this
  have kmU : ∀ {c : CX}, cU c = U → cn c = n → ∀ j, cn c ≤ j → cU c j = 0 := by
    intro c q1 q2 j hj
    rw [q2] at hj
    rw [q1]
    exact (hU j).2 hj
  refine cord (rb := 1 - b) 60 σ _ (by omega) hx t2 hr e1 e2 (by omega) ?_ ?_
  · intro c j nt q G nl st L σ1 cx eU en erb edr c1 l1 n1 s1 ok1 f1 tp1 r1
    have m1 : (swp σ1 r (1 - r)).1 0 = σ.1 0 := by
      unfold swp
      rw [up_ne (by decide), up_ne (by decide), up_ne (by decide), up_ne (by decide)]
      exact funext fun i => funext fun s => f1 0 i s rfl
    have m2 : (swp σ1 r (1 - r)).1 19 = σ.1 19 := by
      unfold swp
      rw [up_ne (by decide), up_ne (by decide), up_ne (by decide), up_ne (by decide)]
      exact funext fun i => funext fun s => f1 19 i s rfl
    refine ⟨nI nl, rfl, mord (b := b) 60 (swp σ1 r (1 - r)) _ (by omega) cx hb (by rw [m1, en]; exact t1) (kmB eU en m2) (kmU eU en) (by rw [m1]; exact e3) erb (fun σ2 a2 b2 g2 tp2 => r1 60 σ2 _ (by omega) a2 b2 (fun σ3 a3 b3 g3 => ?_))⟩
    have hrb := cx.2.2.1
    have erb3 := a3.2.2.2.2.2.2.2.1
    refine wX11_orders_111 60 _ σ3 (by omega) ⟨fun _ => ?_, fun y => absurd a3.fk y⟩
    rintro _ rfl
    rw [up_same, erb3, nI_clamp (by omega), up_ne (show (21 : Nat) ≠ 0 by decide), b3.1]
    refine ⟨vp_in_nI hrb (by omega), rfl, ?_⟩
    -- frames
    have g23 : Fr (cR (1 - b)) (swp σ1 r (1 - r)) σ3 := by
      rw [← erb]
      exact g2.tr g3.LR
    have fs : Fr (cO r b) σ (swp σ1 r (1 - r)) := ((((f1.K1 (b := b)).KO.up (by simp [cO, cK])).up (by simp [cO, cK])).up (by simp [cO])).up (by simp [cO])
    have fo : Fr (cO r b) σ (up σ3 0 0 30 (nI (crb c))) := (fs.tr (g23.K2 (r := r)).KO).up (by simp [cO])
    have q440 : q ≤ 440 := by
      have a := c1.2.1.2
      have b := c1.2.2.1.2
      omega
    have ob : ∀ s, (up σ3 0 0 30 (nI (crb c))).1 6 0 s = (swp σ1 r (1 - r)).1 6 0 s := by
      intro s
      rw [up_ne (by decide)]
      exact g23 6 0 s rfl
    have oc : ∀ k, (coK k = true ∨ k = 7 ∨ k = 71) → (up σ3 0 0 30 (nI (crb c))).1 k = σ1.1 k := by
      intro k hk
      have ne : k ≠ 0 ∧ k ≠ 6 ∧ ∀ i s, cR (1 - b) k i s = false := by
        rcases hk with hk | rfl | rfl
        · unfold coK at hk
          simp only [Bool.or_eq_true, Nat.beq_eq] at hk
          rcases hk with (((rfl | rfl) | rfl) | rfl) | rfl <;> exact ⟨by decide, by decide, fun _ _ => rfl⟩
        · exact ⟨by decide, by decide, fun _ _ => rfl⟩
        · exact ⟨by decide, by decide, fun _ _ => rfl⟩
      rw [up_ne ne.1]
      have : σ3.1 k = (swp σ1 r (1 - r)).1 k := funext fun i => funext fun s => g23 k i s (ne.2.2 i s)
      rw [this]
      unfold swp
      rw [up_ne ne.2.1, up_ne ne.2.1, up_ne ne.2.1, up_ne ne.2.1]
    refine ord_inv fo hI ⟨0, by omega, ?_, ?_, fun j hj => absurd hj (Nat.not_lt_zero j)⟩ (J10.i (r := cdr c) (b := crb c) cx.2.2.2 hrb ?_ ?_ up_same (J10.new q440 n1 s1 ok1 (fun x hx => ?_) (fun x hx => ?_) (fun l hl => ?_) ?_ ⟨?_, fun l hl => ?_⟩)) ⟨?_, ?_⟩
    · rw [up_f (by decide), g3 0 0 11 rfl]
      exact tp2
    · rw [up_ne (by decide), g23 1 0 4 rfl]
      unfold swp
      rw [up_ne (by decide), up_ne (by decide), up_ne (by decide), up_ne (by decide)]
      exact tp1
    · rw [ob]
      unfold swp
      rw [up_f (by decide), up_same, edr]
    · rw [ob]
      unfold swp
      rw [up_same, edr, show 1 - (1 - r) = r by omega]
    · rw [oc 71 (Or.inr (Or.inr rfl))]
      exact c1.2.2.2 x hx
    · exact (a3.2.2.2.2.2.2.2.2 x hx).fr (by rw [up_ne (by decide)]) (by rw [up_ne (by decide)]) (by rw [up_ne (by decide)])
    · have := l1.2.2 l hl
      unfold CLa at this ⊢
      rw [oc 73 (Or.inl rfl), oc 74 (Or.inl rfl), oc 75 (Or.inl rfl), oc 76 (Or.inl rfl), oc 77 (Or.inl rfl)]
      exact this
    · rw [oc 7 (Or.inr (Or.inl rfl))]
      exact l1.1
    · rw [up_ne (by decide)]
      exact b3.1
    · have := b3.2 l hl
      unfold RLa at this ⊢
      simp only [up_ne (show (22 : Nat) ≠ 0 by decide), up_ne (show (23 : Nat) ≠ 0 by decide), up_ne (show (24 : Nat) ≠ 0 by decide), up_ne (show (25 : Nat) ≠ 0 by decide), up_ne (show (26 : Nat) ≠ 0 by decide), up_ne (show (27 : Nat) ≠ 0 by decide)]
      exact this
    · rw [ob, up_f (by decide), a3.fk]
      unfold swp
      rw [up_f (by decide), up_f (by decide), up_f (by decide), up_same]
    · rw [ob, up_f (by decide), a3.2.2.2.2.2.2.1.2]
      unfold swp
      rw [up_f (by decide), up_f (by decide), up_same]
  · intro c j al σ1 cx eU en erb edr f1 tp1 k1 p1 r1
    have m1 : σ1.1 0 = σ.1 0 := funext fun i => funext fun s => f1 0 i s rfl
    have m2 : σ1.1 19 = σ.1 19 := funext fun i => funext fun s => f1 19 i s rfl
    refine ⟨-1, rfl, mord (b := b) 60 σ1 _ (by omega) cx hb (by rw [m1, en]; exact t1) (kmB eU en m2) (kmU eU en) (by rw [m1]; exact e3) erb (fun σ2 a2 b2 g2 tp2 => r1 60 σ2 _ (by omega) a2 b2 (fun σ3 z3 g3 => ?_))⟩
    refine wX11_orders_111 60 _ σ3 (by omega) ⟨fun y => absurd y z3.ne, fun _ => ⟨rfl, ?_⟩⟩
    have g23 : Fr (cR (1 - b)) σ1 σ3 := by
      rw [← erb]
      exact g2.tr g3.LR
    have fo : Fr (cKR r b) σ σ3 := (f1.K1 (b := b)).tr (g23.K2 (r := r))
    refine ord_inv fo.KO hI ⟨0, by omega, ?_, ?_, fun j hj => absurd hj (Nat.not_lt_zero j)⟩ (J10.i hr hb ?_ ?_ ?_ (J10.fr hr hb fo j10)) ⟨?_, ?_⟩
    · rw [g3 0 0 11 rfl]
      exact tp2
    · rw [g23 1 0 4 rfl]
      exact tp1
    · rw [fo 6 0 4 rfl]
      exact e1
    · rw [fo 6 0 5 rfl]
      exact e2
    · rw [fo 0 0 30 rfl]
      exact e3
    · rw [g23 6 0 6 rfl, z3.2.2.1]
      exact k1
    · rw [g23 6 0 7 rfl, z3.2.2.2.1]
      exact p1
