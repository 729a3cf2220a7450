theorem mmonth_ok (d : Nat) (G : HS) (r b nl : Nat) (st : Nat → Nat) (S : MS) (σ : HS) (Q : Option AV → HS → Prop) (x1 : Int32) (i : Nat) (hd : 5 ≤ d) (hI : Inv G) (hO : OB G r b nl st) (hA : FrA G σ) (hc : CM σ S) (hw : WF G S) (hm : S.2.2.2 < 2000) (hx : ¬ x1 ≤ nI i) (h : ∀ σ2, CM σ2 (moP G b nl st S) → FrM σ σ2 → atX11_months_26 d Q σ2 x1 (nI (i + 1))) : atX11_months_26 d Q σ x1 (nI i) := by
  obtain ⟨⟨p1, p1b⟩, p2, p3, p4, p5⟩ := mo_parts hI hw hm
  have hO2 := hO
  obtain ⟨hr, hb, hnl, _, _, eb, _, eL, _, _, _, _⟩ := hO2
  refine wX11_months_26 d Q σ _ _ (by omega) ⟨fun z => absurd z hx, fun _ => ?_⟩
  refine marrive_ok (d - 1) G (60 + S.2.2.2) S σ _ (by omega) hI hA hc hw.2.1 (by omega) hw.1 hw.2.2 (fun σ1 c1 f1 => ⟨rfl, ?_⟩)
  refine mage_ok (d - 1) G _ σ1 _ (by omega) hI (hA.m f1) p1.1 c1 p1.2.1 (fun σ3 c3 f3 => ⟨rfl, ?_⟩)
  refine meat_ok (d - 1) G _ σ3 _ (by omega) hI ((hA.m f1).m f3) p3.1 c3 (fun σ4 c4 f4 => ⟨rfl, ?_⟩)
  have f04 := (f1.tr f3).tr f4
  have eb4 : ∀ σ6, FrM σ σ6 → σ6.1 0 0 30 = nI b := fun σ6 f6 => ((hA.m f6).2.2.2 0 _ (by decide) (by decide)).trans eb
  have e12 : 12 * nI b = nI (12 * b) := by rw [show (12 : Int32) = nI 12 from rfl, pk_mul]
  rw [eb4 σ4 f04, e12]
  rintro _ rfl
  unfold moP at h
  generalize eatA G (ageA G (agS (arF G (cutl S) S.2.1))) = S4 at h p4 p5 c4
  have key : ∀ m l σ5, l + m = nl → FrM σ σ5 → CM σ5 (itr (lnP G b st) S4 l) → atX11_months_51 d Q σ5 x1 (nI i) (nI (12 * b + l)) := by
    intro m
    induction m with
    | zero =>
      intro l σ5 hl f5 c5
      have e : l = nl := by omega
      subst e
      have hA5 := hA.m f5
      have eL5 : σ5.1 21 0 b = nI l := by rw [hA5.k (k := 21) (by decide) (by decide)]; exact eL
      have hmo := (lns_AL hI hO p4 (by omega) (by omega) (by omega) l (Nat.le_refl _)).2
      refine wX11_months_51 d Q σ5 _ _ _ (by omega) ?_
      rw [eb4 σ5 f5, nI_clamp (n := b) (by omega), eL5, e12, nI_add]
      refine ⟨vp_in_nI hb (by omega), fun _ => ?_, fun z => absurd (nI_le (Nat.le_refl _) (by omega)) z⟩
      rintro _ rfl _ rfl
      rw [c5.2.2.2, nI_1, nI_1]
      refine h _ ⟨c5.1.kinds (up_ne (by decide)), ⟨by rw [up_k, if_neg (by decide)]; exact c5.2.1.1, c5.2.1.2.kinds (up_ne (by decide)) (up_ne (by decide)) (up_ne (by decide)) (up_ne (by decide)) (up_ne (by decide))⟩, c5.2.2.1.kinds (up_ne (by decide)), ?_⟩ (f5.setM (Or.inl rfl))
      rw [up_same, hmo, p5]
    | succ m ih =>
      intro l σ5 hl f5 c5
      have hA5 := hA.m f5
      have eL5 : σ5.1 21 0 b = nI nl := by rw [hA5.k (k := 21) (by decide) (by decide)]; exact eL
      obtain ⟨al, hmo⟩ := lns_AL hI hO p4 (by omega) (by omega) (by omega) l (by omega)
      have ih := ih (l + 1)
      rw [itr_succ] at ih
      generalize itr (lnP G b st) S4 l = S5 at ih al hmo c5
      refine wX11_months_51 d Q σ5 _ _ _ (by omega) ?_
      rw [eb4 σ5 f5, nI_clamp (n := b) (by omega), eL5, e12, nI_add]
      refine ⟨vp_in_nI hb (by omega), fun z => absurd z (nI_ge (by omega) (by omega)), fun _ => ?_⟩
      refine mho_ok (d - 1) G S5 r b nl l st σ5 _ (by omega) hI hO (by omega) hA5 c5 al.1 (fun σ6 c6 f6 => ⟨fun z => ⟨_, rfl, fun y => absurd y (by decide), fun _ => ?_⟩, fun z => ⟨_, rfl, fun _ => ?_, fun y => absurd rfl y⟩⟩)
      · refine msd_ok (d - 1) G (61 + S.2.2.2) (S.2.2.2 + 1) r b nl l st S5 σ6 _ (by omega) hI hO (by omega) (hA5.m f6) c6 al (by omega) (by omega) (by omega) (fun σ7 c7 f7 => ⟨rfl, ?_⟩)
        rintro _ rfl
        rw [nI_1]
        exact ih σ7 (by omega) ((f5.tr f6).tr f7) (by rw [lnP_pos z]; exact c7)
      · rintro _ rfl
        rw [nI_1]
        exact ih σ6 (by omega) (f5.tr f6) (by rw [lnP_neg z]; exact c6)
  exact key nl 0 σ4 (by omega) f04 c4
noncomputable def mosP (G : HS) (b nl : Nat) (st : Nat → Nat) (S : MS) : Nat → MS
  | 0 => S
  | n + 1 => moP G b nl st (mosP G b nl st S n)
theorem mosP_WF {G : HS} {r b nl : Nat} {st : Nat → Nat} {S : MS} (hI : Inv G) (hO : OB G r b nl st) (h : WF G S) : ∀ n, S.2.2.2 + n ≤ 2000 → WF G (mosP G b nl st S n) ∧ (mosP G b nl st S n).2.2.2 = S.2.2.2 + n
  | 0, _ => ⟨h, rfl⟩
  | n + 1, hn => by
    obtain ⟨h1, h2⟩ := mosP_WF hI hO h n (by omega)
    refine ⟨moP_WF hI hO h1 (by omega), ?_⟩
    show (mosP G b nl st S n).2.2.2 + 1 = _
    omega
theorem cmonths_ok (d : Nat) (G : HS) (r b nl n : Nat) (st : Nat → Nat) (S : MS) (Q : Option AV → HS → Prop) (σ : HS) (hd : 6 ≤ d) (hI : Inv G) (hO : OB G r b nl st) (hA : FrA G σ) (hw : WF G S) (hn : n ≤ 60) (hm : S.2.2.2 + n ≤ 2000) (h : ∀ σ2, CC σ2 (mosP G b nl st S n) → FrC σ σ2 → Q (some (vI (nI (S.2.2.2 + n)))) σ2) : ∀ m i σ1, i + m = n → FrC σ σ1 → CC σ1 (mosP G b nl st S i) → atX10_months_29 d Q σ1 (nI n) (nI i) := by
  intro m
  induction m with
  | zero =>
    intro i σ1 hi f1 c1
    have e : i = n := by omega
    subst e
    refine wX10_months_29 d Q σ1 _ _ (by omega) ⟨fun _ => ?_, fun z => absurd (nI_le (Nat.le_refl _) (by omega)) z⟩
    rw [c1.2.2.2, (mosP_WF hI hO hw i (by omega)).2]
    exact h σ1 c1 f1
  | succ m ih =>
    intro i σ1 hi f1 c1
    obtain ⟨w1, w2⟩ := mosP_WF hI hO hw i (by omega)
    refine wX10_months_29 d Q σ1 _ _ (by omega) ⟨fun z => absurd z (nI_ge (by omega) (by omega)), fun _ => ?_⟩
    refine cmonth_ok (d - 1) G r b nl st _ σ1 _ (by omega) hI hO (hA.c f1) c1 w1 (by omega) (fun σ2 c2 f2 => ⟨rfl, ?_⟩)
    rintro _ rfl
    rw [nI_1]
    exact ih (i + 1) σ2 (by omega) (f1.tr f2) c2
theorem mmonths_ok (d : Nat) (G : HS) (r b nl n : Nat) (st : Nat → Nat) (S : MS) (Q : Option AV → HS → Prop) (σ : HS) (hd : 6 ≤ d) (hI : Inv G) (hO : OB G r b nl st) (hA : FrA G σ) (hw : WF G S) (hn : n ≤ 60) (hm : S.2.2.2 + n ≤ 2000) (h : ∀ σ2, CM σ2 (mosP G b nl st S n) → FrM σ σ2 → Q (some (vI (nI (S.2.2.2 + n)))) σ2) : ∀ m i σ1, i + m = n → FrM σ σ1 → CM σ1 (mosP G b nl st S i) → atX11_months_26 d Q σ1 (nI n) (nI i) := by
  intro m
  induction m with
  | zero =>
    intro i σ1 hi f1 c1
    have e : i = n := by omega
    subst e
    refine wX11_months_26 d Q σ1 _ _ (by omega) ⟨fun _ => ?_, fun z => absurd (nI_le (Nat.le_refl _) (by omega)) z⟩
    rw [c1.2.2.2, (mosP_WF hI hO hw i (by omega)).2]
    exact h σ1 c1 f1
  | succ m ih =>
    intro i σ1 hi f1 c1
    obtain ⟨w1, w2⟩ := mosP_WF hI hO hw i (by omega)
    exact mmonth_ok d G r b nl st _ σ1 Q _ i (by omega) hI hO (hA.m f1) c1 w1 (by omega) (nI_ge (by omega) (by omega)) (fun σ2 c2 f2 => ih (i + 1) σ2 (by omega) (f1.tr f2) c2)
/-! from the invariant and back -/
def lsF (f : Nat → Ld) : Nat → Nat → List Ld
  | _, 0 => []
  | b, n + 1 => f b :: lsF f (b + 1) n
theorem lsF_len (f : Nat → Ld) : ∀ b n, (lsF f b n).length = n
  | _, 0 => rfl
  | b, n + 1 => by
    show (lsF f (b + 1) n).length + 1 = _
    rw [lsF_len f]
theorem lsF_mem (f : Nat → Ld) {q : Ld} : ∀ b n, q ∈ lsF f b n → ∃ j, b ≤ j ∧ j < b + n ∧ q = f j
  | _, 0, h => absurd h (List.not_mem_nil)
  | b, n + 1, h => by
    rcases List.mem_cons.mp h with h | h
    · exact ⟨b, by omega, by omega, h⟩
    · obtain ⟨j, h1, h2, h3⟩ := lsF_mem f (b + 1) n h
      exact ⟨j, by omega, by omega, h3⟩
theorem lsF_LG {k1 k2 k3 k4 k5 : Nat} {σ : HS} (f : Nat → Ld) : ∀ b n, (∀ j, b ≤ j → j < b + n → σ.1 k1 0 j = nI (f j).1 ∧ σ.1 k2 0 j = nI (f j).2.1 ∧ σ.1 k3 0 j = nI (f j).2.2.1 ∧ σ.1 k4 0 j = nI (f j).2.2.2.1 ∧ σ.1 k5 0 j = nI (f j).2.2.2.2) → LG k1 k2 k3 k4 k5 σ b (lsF f b n)
  | _, 0, _ => True.intro
  | b, n + 1, h => ⟨h b (by omega) (by omega), lsF_LG f (b + 1) n (fun j h1 h2 => h j (by omega) (by omega))⟩
theorem LG.get {k1 k2 k3 k4 k5 : Nat} {σ : HS} : ∀ {ls : List Ld} {b : Nat}, LG k1 k2 k3 k4 k5 σ b ls → ∀ j (hj : j < ls.length), σ.1 k1 0 (b + j) = nI (ls[j]).1 ∧ σ.1 k2 0 (b + j) = nI (ls[j]).2.1 ∧ σ.1 k3 0 (b + j) = nI (ls[j]).2.2.1 ∧ σ.1 k4 0 (b + j) = nI (ls[j]).2.2.2.1 ∧ σ.1 k5 0 (b + j) = nI (ls[j]).2.2.2.2
  | [], _, _, j, hj => absurd hj (Nat.not_lt_zero j)
  | q :: r, b, h, 0, _ => h.1
  | q :: r, b, h, j + 1, hj => by
    have := LG.get h.2 j (by simpa using hj)
    rw [show b + 1 + j = b + (j + 1) by omega] at this
    exact this
theorem Inv.pure {σ : HS} (hI : Inv σ) : ∃ S : MS, CC σ S ∧ CM σ S ∧ WF σ S := by
  obtain ⟨h1, h2, h3, h4, h5, h6, h7, h8, _⟩ := id hI
  obtain ⟨m, hm, m1, m2⟩ := h2
  obtain ⟨w, hw, w1, w2, hL⟩ := h8
  have em : vN (σ.1 0 0 8) = m := by rw [m1, vN_nI (by omega)]
  have f0 : ∀ j, 0 ≤ j → j < 0 + w → j < w := fun j _ h => by omega
  refine ⟨(Lm σ, lsF (fun j => (vN (σ.1 33 0 j), vN (σ.1 34 0 j), vN (σ.1 35 0 j), vN (σ.1 36 0 j), vN (σ.1 37 0 j))) 0 w, (fun i => σ.1 18 0 i), m), ?_, ?_, ?_⟩
  · refine ⟨⟨fun r a hr ha => (h6.row hr ha).1, fun t k ht hk => h6.held ht hk⟩, ⟨by rw [lsF_len]; exact w2, lsF_LG _ 0 w (fun j _ hj => ?_)⟩, h7, m2⟩
    obtain ⟨c1, c2, c3, c4, c5, ⟨t, ht, et⟩, ⟨k, hk, ek⟩, ⟨a, ha, ea⟩, hms, ⟨c, hc1, hc2, ec⟩⟩ := hL j (by omega)
    have hn := hI.nle.1
    have ht2 : t < gN σ := ht
    rw [c1, c2, c3, c4, c5, et, ek, ea, ec, vN_nI (by omega), vN_nI (by omega), vN_nI (by omega), vN_nI (by omega)]
    exact ⟨rfl, rfl, rfl, (isN_vN hms (by omega)).1, rfl⟩
  · refine ⟨fun j hj => (LOK.eq (σ := σ) h6.1 hj).1, ⟨by rw [lsF_len]; exact w1, lsF_LG _ 0 w (fun j _ hj => ?_)⟩, ⟨rfl, rfl, rfl, rfl⟩, m1⟩
    obtain ⟨c1, c2, c3, c4, c5, ⟨t, ht, et⟩, ⟨k, hk, ek⟩, ⟨a, ha, ea⟩, hms, ⟨c, hc1, hc2, ec⟩⟩ := hL j (by omega)
    have hn := hI.nle.1
    have ht2 : t < gN σ := ht
    rw [et, ek, ea, ec, vN_nI (by omega), vN_nI (by omega), vN_nI (by omega), vN_nI (by omega)]
    exact ⟨rfl, rfl, rfl, (isN_vN hms (by omega)).1, rfl⟩
  · refine ⟨hm, ⟨fun t ht => h6.tot ht, ⟨by rw [lsF_len]; exact hw, fun q hq => ?_⟩⟩⟩
    obtain ⟨j, _, hj, rfl⟩ := lsF_mem _ 0 w hq
    obtain ⟨c1, c2, c3, c4, c5, ⟨t, ht, et⟩, ⟨k, hk, ek⟩, ⟨a, ha, ea⟩, hms, ⟨c, hc1, hc2, ec⟩⟩ := hL j (by omega)
    have hn := hI.nle.1
    have ht2 : t < gN σ := ht
    dsimp only
    rw [et, ek, ea, ec, vN_nI (by omega), vN_nI (by omega), vN_nI (by omega), vN_nI (by omega)]
    exact ⟨ht, hk, by omega, (isN_vN hms (by omega)).2, by omega, hc2⟩
theorem pure_Inv {G σ : HS} {S : MS} (hI : Inv G) (hA : FrA G σ) (hc : CC σ S) (hm : CM σ S) (hw : WF G S) : Inv σ := by
  obtain ⟨h1, h2, h3, h4, h5, h6, h7, h8, h9, h10, h11, h12, h13, h14⟩ := id hI
  have hmo := hw.1
  have eR : σ.1 12 = G.1 12 := hA.k (by decide) (by decide)
  have hL : ∀ j, j < 1464 → S.1 j ≤ 100000 := fun j hj => hw.2.1.le (fun t ht => (hI.rle t ht).1) hj
  have hN : vN (σ.1 0 0 7) = gN G := by rw [hA.2.2.2 0 7 (by decide) (by decide)]; rfl
  have hM : vN (σ.1 0 0 8) = S.2.2.2 := by rw [hm.2.2.2, vN_nI (by omega)]
  refine ⟨?_, ⟨S.2.2.2, hw.1, hm.2.2.2, hc.2.2.2⟩, ?_, ?_, ?_, ?_, ?_, ?_, ?_, ?_, ?_, ?_, ?_, ?_⟩
  · simp only [I1, hA.k (k := 12) (by decide) (by decide), hA.k (k := 13) (by decide) (by decide), hA.k (k := 14) (by decide) (by decide), hA.k (k := 3) (by decide) (by decide), hA.k (k := 61) (by decide) (by decide), hA.k (k := 15) (by decide) (by decide), hA.k (k := 62) (by decide) (by decide), hA.k (k := 16) (by decide) (by decide), hA.k (k := 1) (by decide) (by decide), hA.k (k := 58) (by decide) (by decide), hA.k (k := 19) (by decide) (by decide), hA.k (k := 6) (by decide) (by decide), hA.k (k := 7) (by decide) (by decide), hA.k (k := 21) (by decide) (by decide), hA.k (k := 73) (by decide) (by decide), hA.k (k := 22) (by decide) (by decide), hA.k (k := 23) (by decide) (by decide), hA.k (k := 74) (by decide) (by decide), hA.k (k := 24) (by decide) (by decide), hA.k (k := 75) (by decide) (by decide), hA.k (k := 25) (by decide) (by decide), hA.k (k := 76) (by decide) (by decide), hA.k (k := 26) (by decide) (by decide), hA.k (k := 77) (by decide) (by decide), hA.k (k := 27) (by decide) (by decide), hA.k (k := 28) (by decide) (by decide), hA.k (k := 29) (by decide) (by decide), hA.k (k := 30) (by decide) (by decide), hA.k (k := 71) (by decide) (by decide), hA.k (k := 9) (by decide) (by decide), hA.k (k := 81) (by decide) (by decide), hA.k (k := 82) (by decide) (by decide), hA.k (k := 83) (by decide) (by decide), hA.k (k := 84) (by decide) (by decide), hA.k (k := 38) (by decide) (by decide), hA.k (k := 39) (by decide) (by decide), hA.k (k := 40) (by decide) (by decide), hA.k (k := 41) (by decide) (by decide), hA.k (k := 49) (by decide) (by decide), hA.k (k := 11) (by decide) (by decide), hA.k (k := 98) (by decide) (by decide), hA.k (k := 99) (by decide) (by decide), hA.k (k := 100) (by decide) (by decide), hA.k (k := 101) (by decide) (by decide), hA.k (k := 102) (by decide) (by decide), hA.k (k := 103) (by decide) (by decide), hA.k (k := 50) (by decide) (by decide), hA.k (k := 51) (by decide) (by decide), hA.k (k := 52) (by decide) (by decide), hA.k (k := 53) (by decide) (by decide), hA.k (k := 54) (by decide) (by decide), hA.k (k := 55) (by decide) (by decide), hA.k (k := 56) (by decide) (by decide), hA.2.2.2 0 7 (by decide) (by decide), hA.2.2.2 0 11 (by decide) (by decide), hA.2.2.2 0 30 (by decide) (by decide), hA.2.2.2 0 13 (by decide) (by decide), hA.2.2.2 0 14 (by decide) (by decide), hA.2.2.2 0 55 (by decide) (by decide), hA.2.2.2 0 59 (by decide) (by decide), hA.2.2.2 0 68 (by decide) (by decide), hA.2.2.1 0 3 (by decide), hA.2.2.1 0 5 (by decide)]; exact h1
  · simp only [I3, hA.k (k := 12) (by decide) (by decide), hA.k (k := 13) (by decide) (by decide), hA.k (k := 14) (by decide) (by decide), hA.k (k := 3) (by decide) (by decide), hA.k (k := 61) (by decide) (by decide), hA.k (k := 15) (by decide) (by decide), hA.k (k := 62) (by decide) (by decide), hA.k (k := 16) (by decide) (by decide), hA.k (k := 1) (by decide) (by decide), hA.k (k := 58) (by decide) (by decide), hA.k (k := 19) (by decide) (by decide), hA.k (k := 6) (by decide) (by decide), hA.k (k := 7) (by decide) (by decide), hA.k (k := 21) (by decide) (by decide), hA.k (k := 73) (by decide) (by decide), hA.k (k := 22) (by decide) (by decide), hA.k (k := 23) (by decide) (by decide), hA.k (k := 74) (by decide) (by decide), hA.k (k := 24) (by decide) (by decide), hA.k (k := 75) (by decide) (by decide), hA.k (k := 25) (by decide) (by decide), hA.k (k := 76) (by decide) (by decide), hA.k (k := 26) (by decide) (by decide), hA.k (k := 77) (by decide) (by decide), hA.k (k := 27) (by decide) (by decide), hA.k (k := 28) (by decide) (by decide), hA.k (k := 29) (by decide) (by decide), hA.k (k := 30) (by decide) (by decide), hA.k (k := 71) (by decide) (by decide), hA.k (k := 9) (by decide) (by decide), hA.k (k := 81) (by decide) (by decide), hA.k (k := 82) (by decide) (by decide), hA.k (k := 83) (by decide) (by decide), hA.k (k := 84) (by decide) (by decide), hA.k (k := 38) (by decide) (by decide), hA.k (k := 39) (by decide) (by decide), hA.k (k := 40) (by decide) (by decide), hA.k (k := 41) (by decide) (by decide), hA.k (k := 49) (by decide) (by decide), hA.k (k := 11) (by decide) (by decide), hA.k (k := 98) (by decide) (by decide), hA.k (k := 99) (by decide) (by decide), hA.k (k := 100) (by decide) (by decide), hA.k (k := 101) (by decide) (by decide), hA.k (k := 102) (by decide) (by decide), hA.k (k := 103) (by decide) (by decide), hA.k (k := 50) (by decide) (by decide), hA.k (k := 51) (by decide) (by decide), hA.k (k := 52) (by decide) (by decide), hA.k (k := 53) (by decide) (by decide), hA.k (k := 54) (by decide) (by decide), hA.k (k := 55) (by decide) (by decide), hA.k (k := 56) (by decide) (by decide), hA.2.2.2 0 7 (by decide) (by decide), hA.2.2.2 0 11 (by decide) (by decide), hA.2.2.2 0 30 (by decide) (by decide), hA.2.2.2 0 13 (by decide) (by decide), hA.2.2.2 0 14 (by decide) (by decide), hA.2.2.2 0 55 (by decide) (by decide), hA.2.2.2 0 59 (by decide) (by decide), hA.2.2.2 0 68 (by decide) (by decide), hA.2.2.1 0 3 (by decide), hA.2.2.1 0 5 (by decide)]; exact h3
  · simp only [I4, hA.k (k := 12) (by decide) (by decide), hA.k (k := 13) (by decide) (by decide), hA.k (k := 14) (by decide) (by decide), hA.k (k := 3) (by decide) (by decide), hA.k (k := 61) (by decide) (by decide), hA.k (k := 15) (by decide) (by decide), hA.k (k := 62) (by decide) (by decide), hA.k (k := 16) (by decide) (by decide), hA.k (k := 1) (by decide) (by decide), hA.k (k := 58) (by decide) (by decide), hA.k (k := 19) (by decide) (by decide), hA.k (k := 6) (by decide) (by decide), hA.k (k := 7) (by decide) (by decide), hA.k (k := 21) (by decide) (by decide), hA.k (k := 73) (by decide) (by decide), hA.k (k := 22) (by decide) (by decide), hA.k (k := 23) (by decide) (by decide), hA.k (k := 74) (by decide) (by decide), hA.k (k := 24) (by decide) (by decide), hA.k (k := 75) (by decide) (by decide), hA.k (k := 25) (by decide) (by decide), hA.k (k := 76) (by decide) (by decide), hA.k (k := 26) (by decide) (by decide), hA.k (k := 77) (by decide) (by decide), hA.k (k := 27) (by decide) (by decide), hA.k (k := 28) (by decide) (by decide), hA.k (k := 29) (by decide) (by decide), hA.k (k := 30) (by decide) (by decide), hA.k (k := 71) (by decide) (by decide), hA.k (k := 9) (by decide) (by decide), hA.k (k := 81) (by decide) (by decide), hA.k (k := 82) (by decide) (by decide), hA.k (k := 83) (by decide) (by decide), hA.k (k := 84) (by decide) (by decide), hA.k (k := 38) (by decide) (by decide), hA.k (k := 39) (by decide) (by decide), hA.k (k := 40) (by decide) (by decide), hA.k (k := 41) (by decide) (by decide), hA.k (k := 49) (by decide) (by decide), hA.k (k := 11) (by decide) (by decide), hA.k (k := 98) (by decide) (by decide), hA.k (k := 99) (by decide) (by decide), hA.k (k := 100) (by decide) (by decide), hA.k (k := 101) (by decide) (by decide), hA.k (k := 102) (by decide) (by decide), hA.k (k := 103) (by decide) (by decide), hA.k (k := 50) (by decide) (by decide), hA.k (k := 51) (by decide) (by decide), hA.k (k := 52) (by decide) (by decide), hA.k (k := 53) (by decide) (by decide), hA.k (k := 54) (by decide) (by decide), hA.k (k := 55) (by decide) (by decide), hA.k (k := 56) (by decide) (by decide), hA.2.2.2 0 7 (by decide) (by decide), hA.2.2.2 0 11 (by decide) (by decide), hA.2.2.2 0 30 (by decide) (by decide), hA.2.2.2 0 13 (by decide) (by decide), hA.2.2.2 0 14 (by decide) (by decide), hA.2.2.2 0 55 (by decide) (by decide), hA.2.2.2 0 59 (by decide) (by decide), hA.2.2.2 0 68 (by decide) (by decide), hA.2.2.1 0 3 (by decide), hA.2.2.1 0 5 (by decide)]; exact h4
  · simp only [I5, hA.k (k := 12) (by decide) (by decide), hA.k (k := 13) (by decide) (by decide), hA.k (k := 14) (by decide) (by decide), hA.k (k := 3) (by decide) (by decide), hA.k (k := 61) (by decide) (by decide), hA.k (k := 15) (by decide) (by decide), hA.k (k := 62) (by decide) (by decide), hA.k (k := 16) (by decide) (by decide), hA.k (k := 1) (by decide) (by decide), hA.k (k := 58) (by decide) (by decide), hA.k (k := 19) (by decide) (by decide), hA.k (k := 6) (by decide) (by decide), hA.k (k := 7) (by decide) (by decide), hA.k (k := 21) (by decide) (by decide), hA.k (k := 73) (by decide) (by decide), hA.k (k := 22) (by decide) (by decide), hA.k (k := 23) (by decide) (by decide), hA.k (k := 74) (by decide) (by decide), hA.k (k := 24) (by decide) (by decide), hA.k (k := 75) (by decide) (by decide), hA.k (k := 25) (by decide) (by decide), hA.k (k := 76) (by decide) (by decide), hA.k (k := 26) (by decide) (by decide), hA.k (k := 77) (by decide) (by decide), hA.k (k := 27) (by decide) (by decide), hA.k (k := 28) (by decide) (by decide), hA.k (k := 29) (by decide) (by decide), hA.k (k := 30) (by decide) (by decide), hA.k (k := 71) (by decide) (by decide), hA.k (k := 9) (by decide) (by decide), hA.k (k := 81) (by decide) (by decide), hA.k (k := 82) (by decide) (by decide), hA.k (k := 83) (by decide) (by decide), hA.k (k := 84) (by decide) (by decide), hA.k (k := 38) (by decide) (by decide), hA.k (k := 39) (by decide) (by decide), hA.k (k := 40) (by decide) (by decide), hA.k (k := 41) (by decide) (by decide), hA.k (k := 49) (by decide) (by decide), hA.k (k := 11) (by decide) (by decide), hA.k (k := 98) (by decide) (by decide), hA.k (k := 99) (by decide) (by decide), hA.k (k := 100) (by decide) (by decide), hA.k (k := 101) (by decide) (by decide), hA.k (k := 102) (by decide) (by decide), hA.k (k := 103) (by decide) (by decide), hA.k (k := 50) (by decide) (by decide), hA.k (k := 51) (by decide) (by decide), hA.k (k := 52) (by decide) (by decide), hA.k (k := 53) (by decide) (by decide), hA.k (k := 54) (by decide) (by decide), hA.k (k := 55) (by decide) (by decide), hA.k (k := 56) (by decide) (by decide), hA.2.2.2 0 7 (by decide) (by decide), hA.2.2.2 0 11 (by decide) (by decide), hA.2.2.2 0 30 (by decide) (by decide), hA.2.2.2 0 13 (by decide) (by decide), hA.2.2.2 0 14 (by decide) (by decide), hA.2.2.2 0 55 (by decide) (by decide), hA.2.2.2 0 59 (by decide) (by decide), hA.2.2.2 0 68 (by decide) (by decide), hA.2.2.1 0 3 (by decide), hA.2.2.1 0 5 (by decide)]; exact h5
  · refine ⟨fun j hj => ⟨S.1 j, hL j hj, hm.1 j hj⟩, fun r a hr ha => by rw [hc.1.1 r a hr ha, hm.1 _ (by omega)], fun t k ht hk => ?_, fun t ht => ?_⟩
    · rw [hc.1.2 t k ht hk]
      congr 1
      exact sm_cong (fun a ha => by rw [hm.1 _ (by omega), vN_nI (by have := hL (61 * (3 * t + k) + a) (by omega); omega)]; rfl)
    · rw [eR]
      have := hw.2.1 t ht
      unfold tot at this
      rw [sm_cong (g := fun j => S.1 (183 * t + j)) (fun j hj => by rw [hm.1 _ (by omega), vN_nI (by have := hL (183 * t + j) (by omega); omega)])]
      exact this
  · exact ⟨hc.2.2.1.1.trans hm.2.2.1.1.symm, hc.2.2.1.2.1.trans hm.2.2.1.2.1.symm, hc.2.2.1.2.2.1.trans hm.2.2.1.2.2.1.symm, hc.2.2.1.2.2.2.trans hm.2.2.1.2.2.2.symm⟩
  · refine ⟨S.2.1.length, hw.2.2.1, hm.2.1.1, hc.2.1.1, fun j hj => ?_⟩
    obtain ⟨a1, a2, a3, a4, a5⟩ := LG.get hc.2.1.2 j hj
    obtain ⟨b1, b2, b3, b4, b5⟩ := LG.get hm.2.1.2 j hj
    rw [Nat.zero_add] at a1 a2 a3 a4 a5 b1 b2 b3 b4 b5
    obtain ⟨l1, l2, l3, l4, l5, l6⟩ := hw.2.2.2 _ (List.getElem_mem hj)
    rw [hN, hM]
    exact ⟨a1.trans b1.symm, a2.trans b2.symm, a3.trans b3.symm, a4.trans b4.symm, a5.trans b5.symm, ⟨_, l1, b1⟩, ⟨_, l2, b2⟩, ⟨_, l3, b3⟩, ⟨_, l4, b4⟩, ⟨_, l5, l6, b5⟩⟩
  · simp only [I9, hA.k (k := 12) (by decide) (by decide), hA.k (k := 13) (by decide) (by decide), hA.k (k := 14) (by decide) (by decide), hA.k (k := 3) (by decide) (by decide), hA.k (k := 61) (by decide) (by decide), hA.k (k := 15) (by decide) (by decide), hA.k (k := 62) (by decide) (by decide), hA.k (k := 16) (by decide) (by decide), hA.k (k := 1) (by decide) (by decide), hA.k (k := 58) (by decide) (by decide), hA.k (k := 19) (by decide) (by decide), hA.k (k := 6) (by decide) (by decide), hA.k (k := 7) (by decide) (by decide), hA.k (k := 21) (by decide) (by decide), hA.k (k := 73) (by decide) (by decide), hA.k (k := 22) (by decide) (by decide), hA.k (k := 23) (by decide) (by decide), hA.k (k := 74) (by decide) (by decide), hA.k (k := 24) (by decide) (by decide), hA.k (k := 75) (by decide) (by decide), hA.k (k := 25) (by decide) (by decide), hA.k (k := 76) (by decide) (by decide), hA.k (k := 26) (by decide) (by decide), hA.k (k := 77) (by decide) (by decide), hA.k (k := 27) (by decide) (by decide), hA.k (k := 28) (by decide) (by decide), hA.k (k := 29) (by decide) (by decide), hA.k (k := 30) (by decide) (by decide), hA.k (k := 71) (by decide) (by decide), hA.k (k := 9) (by decide) (by decide), hA.k (k := 81) (by decide) (by decide), hA.k (k := 82) (by decide) (by decide), hA.k (k := 83) (by decide) (by decide), hA.k (k := 84) (by decide) (by decide), hA.k (k := 38) (by decide) (by decide), hA.k (k := 39) (by decide) (by decide), hA.k (k := 40) (by decide) (by decide), hA.k (k := 41) (by decide) (by decide), hA.k (k := 49) (by decide) (by decide), hA.k (k := 11) (by decide) (by decide), hA.k (k := 98) (by decide) (by decide), hA.k (k := 99) (by decide) (by decide), hA.k (k := 100) (by decide) (by decide), hA.k (k := 101) (by decide) (by decide), hA.k (k := 102) (by decide) (by decide), hA.k (k := 103) (by decide) (by decide), hA.k (k := 50) (by decide) (by decide), hA.k (k := 51) (by decide) (by decide), hA.k (k := 52) (by decide) (by decide), hA.k (k := 53) (by decide) (by decide), hA.k (k := 54) (by decide) (by decide), hA.k (k := 55) (by decide) (by decide), hA.k (k := 56) (by decide) (by decide), hA.2.2.2 0 7 (by decide) (by decide), hA.2.2.2 0 11 (by decide) (by decide), hA.2.2.2 0 30 (by decide) (by decide), hA.2.2.2 0 13 (by decide) (by decide), hA.2.2.2 0 14 (by decide) (by decide), hA.2.2.2 0 55 (by decide) (by decide), hA.2.2.2 0 59 (by decide) (by decide), hA.2.2.2 0 68 (by decide) (by decide), hA.2.2.1 0 3 (by decide), hA.2.2.1 0 5 (by decide)]; exact h9
  · simp only [I10, hA.k (k := 12) (by decide) (by decide), hA.k (k := 13) (by decide) (by decide), hA.k (k := 14) (by decide) (by decide), hA.k (k := 3) (by decide) (by decide), hA.k (k := 61) (by decide) (by decide), hA.k (k := 15) (by decide) (by decide), hA.k (k := 62) (by decide) (by decide), hA.k (k := 16) (by decide) (by decide), hA.k (k := 1) (by decide) (by decide), hA.k (k := 58) (by decide) (by decide), hA.k (k := 19) (by decide) (by decide), hA.k (k := 6) (by decide) (by decide), hA.k (k := 7) (by decide) (by decide), hA.k (k := 21) (by decide) (by decide), hA.k (k := 73) (by decide) (by decide), hA.k (k := 22) (by decide) (by decide), hA.k (k := 23) (by decide) (by decide), hA.k (k := 74) (by decide) (by decide), hA.k (k := 24) (by decide) (by decide), hA.k (k := 75) (by decide) (by decide), hA.k (k := 25) (by decide) (by decide), hA.k (k := 76) (by decide) (by decide), hA.k (k := 26) (by decide) (by decide), hA.k (k := 77) (by decide) (by decide), hA.k (k := 27) (by decide) (by decide), hA.k (k := 28) (by decide) (by decide), hA.k (k := 29) (by decide) (by decide), hA.k (k := 30) (by decide) (by decide), hA.k (k := 71) (by decide) (by decide), hA.k (k := 9) (by decide) (by decide), hA.k (k := 81) (by decide) (by decide), hA.k (k := 82) (by decide) (by decide), hA.k (k := 83) (by decide) (by decide), hA.k (k := 84) (by decide) (by decide), hA.k (k := 38) (by decide) (by decide), hA.k (k := 39) (by decide) (by decide), hA.k (k := 40) (by decide) (by decide), hA.k (k := 41) (by decide) (by decide), hA.k (k := 49) (by decide) (by decide), hA.k (k := 11) (by decide) (by decide), hA.k (k := 98) (by decide) (by decide), hA.k (k := 99) (by decide) (by decide), hA.k (k := 100) (by decide) (by decide), hA.k (k := 101) (by decide) (by decide), hA.k (k := 102) (by decide) (by decide), hA.k (k := 103) (by decide) (by decide), hA.k (k := 50) (by decide) (by decide), hA.k (k := 51) (by decide) (by decide), hA.k (k := 52) (by decide) (by decide), hA.k (k := 53) (by decide) (by decide), hA.k (k := 54) (by decide) (by decide), hA.k (k := 55) (by decide) (by decide), hA.k (k := 56) (by decide) (by decide), hA.2.2.2 0 7 (by decide) (by decide), hA.2.2.2 0 11 (by decide) (by decide), hA.2.2.2 0 30 (by decide) (by decide), hA.2.2.2 0 13 (by decide) (by decide), hA.2.2.2 0 14 (by decide) (by decide), hA.2.2.2 0 55 (by decide) (by decide), hA.2.2.2 0 59 (by decide) (by decide), hA.2.2.2 0 68 (by decide) (by decide), hA.2.2.1 0 3 (by decide), hA.2.2.1 0 5 (by decide)]; exact h10
  · simp only [I11, hA.k (k := 12) (by decide) (by decide), hA.k (k := 13) (by decide) (by decide), hA.k (k := 14) (by decide) (by decide), hA.k (k := 3) (by decide) (by decide), hA.k (k := 61) (by decide) (by decide), hA.k (k := 15) (by decide) (by decide), hA.k (k := 62) (by decide) (by decide), hA.k (k := 16) (by decide) (by decide), hA.k (k := 1) (by decide) (by decide), hA.k (k := 58) (by decide) (by decide), hA.k (k := 19) (by decide) (by decide), hA.k (k := 6) (by decide) (by decide), hA.k (k := 7) (by decide) (by decide), hA.k (k := 21) (by decide) (by decide), hA.k (k := 73) (by decide) (by decide), hA.k (k := 22) (by decide) (by decide), hA.k (k := 23) (by decide) (by decide), hA.k (k := 74) (by decide) (by decide), hA.k (k := 24) (by decide) (by decide), hA.k (k := 75) (by decide) (by decide), hA.k (k := 25) (by decide) (by decide), hA.k (k := 76) (by decide) (by decide), hA.k (k := 26) (by decide) (by decide), hA.k (k := 77) (by decide) (by decide), hA.k (k := 27) (by decide) (by decide), hA.k (k := 28) (by decide) (by decide), hA.k (k := 29) (by decide) (by decide), hA.k (k := 30) (by decide) (by decide), hA.k (k := 71) (by decide) (by decide), hA.k (k := 9) (by decide) (by decide), hA.k (k := 81) (by decide) (by decide), hA.k (k := 82) (by decide) (by decide), hA.k (k := 83) (by decide) (by decide), hA.k (k := 84) (by decide) (by decide), hA.k (k := 38) (by decide) (by decide), hA.k (k := 39) (by decide) (by decide), hA.k (k := 40) (by decide) (by decide), hA.k (k := 41) (by decide) (by decide), hA.k (k := 49) (by decide) (by decide), hA.k (k := 11) (by decide) (by decide), hA.k (k := 98) (by decide) (by decide), hA.k (k := 99) (by decide) (by decide), hA.k (k := 100) (by decide) (by decide), hA.k (k := 101) (by decide) (by decide), hA.k (k := 102) (by decide) (by decide), hA.k (k := 103) (by decide) (by decide), hA.k (k := 50) (by decide) (by decide), hA.k (k := 51) (by decide) (by decide), hA.k (k := 52) (by decide) (by decide), hA.k (k := 53) (by decide) (by decide), hA.k (k := 54) (by decide) (by decide), hA.k (k := 55) (by decide) (by decide), hA.k (k := 56) (by decide) (by decide), hA.2.2.2 0 7 (by decide) (by decide), hA.2.2.2 0 11 (by decide) (by decide), hA.2.2.2 0 30 (by decide) (by decide), hA.2.2.2 0 13 (by decide) (by decide), hA.2.2.2 0 14 (by decide) (by decide), hA.2.2.2 0 55 (by decide) (by decide), hA.2.2.2 0 59 (by decide) (by decide), hA.2.2.2 0 68 (by decide) (by decide), hA.2.2.1 0 3 (by decide), hA.2.2.1 0 5 (by decide)]; exact h11
  · simp only [I12, hA.k (k := 12) (by decide) (by decide), hA.k (k := 13) (by decide) (by decide), hA.k (k := 14) (by decide) (by decide), hA.k (k := 3) (by decide) (by decide), hA.k (k := 61) (by decide) (by decide), hA.k (k := 15) (by decide) (by decide), hA.k (k := 62) (by decide) (by decide), hA.k (k := 16) (by decide) (by decide), hA.k (k := 1) (by decide) (by decide), hA.k (k := 58) (by decide) (by decide), hA.k (k := 19) (by decide) (by decide), hA.k (k := 6) (by decide) (by decide), hA.k (k := 7) (by decide) (by decide), hA.k (k := 21) (by decide) (by decide), hA.k (k := 73) (by decide) (by decide), hA.k (k := 22) (by decide) (by decide), hA.k (k := 23) (by decide) (by decide), hA.k (k := 74) (by decide) (by decide), hA.k (k := 24) (by decide) (by decide), hA.k (k := 75) (by decide) (by decide), hA.k (k := 25) (by decide) (by decide), hA.k (k := 76) (by decide) (by decide), hA.k (k := 26) (by decide) (by decide), hA.k (k := 77) (by decide) (by decide), hA.k (k := 27) (by decide) (by decide), hA.k (k := 28) (by decide) (by decide), hA.k (k := 29) (by decide) (by decide), hA.k (k := 30) (by decide) (by decide), hA.k (k := 71) (by decide) (by decide), hA.k (k := 9) (by decide) (by decide), hA.k (k := 81) (by decide) (by decide), hA.k (k := 82) (by decide) (by decide), hA.k (k := 83) (by decide) (by decide), hA.k (k := 84) (by decide) (by decide), hA.k (k := 38) (by decide) (by decide), hA.k (k := 39) (by decide) (by decide), hA.k (k := 40) (by decide) (by decide), hA.k (k := 41) (by decide) (by decide), hA.k (k := 49) (by decide) (by decide), hA.k (k := 11) (by decide) (by decide), hA.k (k := 98) (by decide) (by decide), hA.k (k := 99) (by decide) (by decide), hA.k (k := 100) (by decide) (by decide), hA.k (k := 101) (by decide) (by decide), hA.k (k := 102) (by decide) (by decide), hA.k (k := 103) (by decide) (by decide), hA.k (k := 50) (by decide) (by decide), hA.k (k := 51) (by decide) (by decide), hA.k (k := 52) (by decide) (by decide), hA.k (k := 53) (by decide) (by decide), hA.k (k := 54) (by decide) (by decide), hA.k (k := 55) (by decide) (by decide), hA.k (k := 56) (by decide) (by decide), hA.2.2.2 0 7 (by decide) (by decide), hA.2.2.2 0 11 (by decide) (by decide), hA.2.2.2 0 30 (by decide) (by decide), hA.2.2.2 0 13 (by decide) (by decide), hA.2.2.2 0 14 (by decide) (by decide), hA.2.2.2 0 55 (by decide) (by decide), hA.2.2.2 0 59 (by decide) (by decide), hA.2.2.2 0 68 (by decide) (by decide), hA.2.2.1 0 3 (by decide), hA.2.2.1 0 5 (by decide)]; exact h12
  · simp only [I13, hA.k (k := 12) (by decide) (by decide), hA.k (k := 13) (by decide) (by decide), hA.k (k := 14) (by decide) (by decide), hA.k (k := 3) (by decide) (by decide), hA.k (k := 61) (by decide) (by decide), hA.k (k := 15) (by decide) (by decide), hA.k (k := 62) (by decide) (by decide), hA.k (k := 16) (by decide) (by decide), hA.k (k := 1) (by decide) (by decide), hA.k (k := 58) (by decide) (by decide), hA.k (k := 19) (by decide) (by decide), hA.k (k := 6) (by decide) (by decide), hA.k (k := 7) (by decide) (by decide), hA.k (k := 21) (by decide) (by decide), hA.k (k := 73) (by decide) (by decide), hA.k (k := 22) (by decide) (by decide), hA.k (k := 23) (by decide) (by decide), hA.k (k := 74) (by decide) (by decide), hA.k (k := 24) (by decide) (by decide), hA.k (k := 75) (by decide) (by decide), hA.k (k := 25) (by decide) (by decide), hA.k (k := 76) (by decide) (by decide), hA.k (k := 26) (by decide) (by decide), hA.k (k := 77) (by decide) (by decide), hA.k (k := 27) (by decide) (by decide), hA.k (k := 28) (by decide) (by decide), hA.k (k := 29) (by decide) (by decide), hA.k (k := 30) (by decide) (by decide), hA.k (k := 71) (by decide) (by decide), hA.k (k := 9) (by decide) (by decide), hA.k (k := 81) (by decide) (by decide), hA.k (k := 82) (by decide) (by decide), hA.k (k := 83) (by decide) (by decide), hA.k (k := 84) (by decide) (by decide), hA.k (k := 38) (by decide) (by decide), hA.k (k := 39) (by decide) (by decide), hA.k (k := 40) (by decide) (by decide), hA.k (k := 41) (by decide) (by decide), hA.k (k := 49) (by decide) (by decide), hA.k (k := 11) (by decide) (by decide), hA.k (k := 98) (by decide) (by decide), hA.k (k := 99) (by decide) (by decide), hA.k (k := 100) (by decide) (by decide), hA.k (k := 101) (by decide) (by decide), hA.k (k := 102) (by decide) (by decide), hA.k (k := 103) (by decide) (by decide), hA.k (k := 50) (by decide) (by decide), hA.k (k := 51) (by decide) (by decide), hA.k (k := 52) (by decide) (by decide), hA.k (k := 53) (by decide) (by decide), hA.k (k := 54) (by decide) (by decide), hA.k (k := 55) (by decide) (by decide), hA.k (k := 56) (by decide) (by decide), hA.2.2.2 0 7 (by decide) (by decide), hA.2.2.2 0 11 (by decide) (by decide), hA.2.2.2 0 30 (by decide) (by decide), hA.2.2.2 0 13 (by decide) (by decide), hA.2.2.2 0 14 (by decide) (by decide), hA.2.2.2 0 55 (by decide) (by decide), hA.2.2.2 0 59 (by decide) (by decide), hA.2.2.2 0 68 (by decide) (by decide), hA.2.2.1 0 3 (by decide), hA.2.2.1 0 5 (by decide)]; exact h13
  · simp only [I14, hA.k (k := 12) (by decide) (by decide), hA.k (k := 13) (by decide) (by decide), hA.k (k := 14) (by decide) (by decide), hA.k (k := 3) (by decide) (by decide), hA.k (k := 61) (by decide) (by decide), hA.k (k := 15) (by decide) (by decide), hA.k (k := 62) (by decide) (by decide), hA.k (k := 16) (by decide) (by decide), hA.k (k := 1) (by decide) (by decide), hA.k (k := 58) (by decide) (by decide), hA.k (k := 19) (by decide) (by decide), hA.k (k := 6) (by decide) (by decide), hA.k (k := 7) (by decide) (by decide), hA.k (k := 21) (by decide) (by decide), hA.k (k := 73) (by decide) (by decide), hA.k (k := 22) (by decide) (by decide), hA.k (k := 23) (by decide) (by decide), hA.k (k := 74) (by decide) (by decide), hA.k (k := 24) (by decide) (by decide), hA.k (k := 75) (by decide) (by decide), hA.k (k := 25) (by decide) (by decide), hA.k (k := 76) (by decide) (by decide), hA.k (k := 26) (by decide) (by decide), hA.k (k := 77) (by decide) (by decide), hA.k (k := 27) (by decide) (by decide), hA.k (k := 28) (by decide) (by decide), hA.k (k := 29) (by decide) (by decide), hA.k (k := 30) (by decide) (by decide), hA.k (k := 71) (by decide) (by decide), hA.k (k := 9) (by decide) (by decide), hA.k (k := 81) (by decide) (by decide), hA.k (k := 82) (by decide) (by decide), hA.k (k := 83) (by decide) (by decide), hA.k (k := 84) (by decide) (by decide), hA.k (k := 38) (by decide) (by decide), hA.k (k := 39) (by decide) (by decide), hA.k (k := 40) (by decide) (by decide), hA.k (k := 41) (by decide) (by decide), hA.k (k := 49) (by decide) (by decide), hA.k (k := 11) (by decide) (by decide), hA.k (k := 98) (by decide) (by decide), hA.k (k := 99) (by decide) (by decide), hA.k (k := 100) (by decide) (by decide), hA.k (k := 101) (by decide) (by decide), hA.k (k := 102) (by decide) (by decide), hA.k (k := 103) (by decide) (by decide), hA.k (k := 50) (by decide) (by decide), hA.k (k := 51) (by decide) (by decide), hA.k (k := 52) (by decide) (by decide), hA.k (k := 53) (by decide) (by decide), hA.k (k := 54) (by decide) (by decide), hA.k (k := 55) (by decide) (by decide), hA.k (k := 56) (by decide) (by decide), hA.2.2.2 0 7 (by decide) (by decide), hA.2.2.2 0 11 (by decide) (by decide), hA.2.2.2 0 30 (by decide) (by decide), hA.2.2.2 0 13 (by decide) (by decide), hA.2.2.2 0 14 (by decide) (by decide), hA.2.2.2 0 55 (by decide) (by decide), hA.2.2.2 0 59 (by decide) (by decide), hA.2.2.2 0 68 (by decide) (by decide), hA.2.2.1 0 3 (by decide), hA.2.2.1 0 5 (by decide)]; exact h14
theorem FrM.cc {σ σ2 : HS} {S : MS} (f : FrM σ σ2) (h : CC σ S) : CC σ2 S := by
  have e := f.2.1
  exact ⟨h.1.kinds (e _ (by decide)) (e _ (by decide)), ⟨by rw [e 5 (by decide)]; exact h.2.1.1, h.2.1.2.kinds (e _ (by decide)) (e _ (by decide)) (e _ (by decide)) (e _ (by decide)) (e _ (by decide))⟩, h.2.2.1.kinds (e _ (by decide)), by rw [e 2 (by decide)]; exact h.2.2.2⟩
theorem FrC.cm {σ σ2 : HS} {S : MS} (f : FrC σ σ2) (h : CM σ S) : CM σ2 S := by
  have e := f.2.1
  exact ⟨h.1.kinds (e _ (by decide)), ⟨by rw [e 0 (by decide)]; exact h.2.1.1, h.2.1.2.kinds (e _ (by decide)) (e _ (by decide)) (e _ (by decide)) (e _ (by decide)) (e _ (by decide))⟩, h.2.2.1.kinds (e _ (by decide)), by rw [e 0 (by decide)]; exact h.2.2.2⟩
theorem st_months (a0 : Int32) : Step mX10_months mX11_months [vI a0] := by
  intro σ hI
  obtain ⟨S, hc, hm, hw⟩ := hI.pure
  obtain ⟨r, b, nl, st, hO⟩ := hI.2.2.2.2.2.2.2.2.2.1
  have hO : OB σ r b nl st := hO
  have hno : PostS (-1) (some (vI (-1))) σ := ⟨rfl, hI⟩
  have hmo := hw.1
  have q0 : (0 ≤ a0 ∧ a0 ≤ 60) ↔ ∃ n, n < 61 ∧ a0 = nI n := ag_iff
  have no1 : ¬ (0 ≤ a0 ∧ a0 ≤ 60) → MT 60 mX11_months [vR 0 0, vI a0] σ (PostS (-1)) := fun z => by
    refine wX11_months 60 a0 σ _ ⟨fun _ => hno, fun y => ⟨fun _ => hno, fun x => absurd ⟨Int32.not_lt.mp y, Int32.not_lt.mp x⟩ z⟩⟩
  refine wX10_months 60 a0 σ _ (by decide) ⟨fun z => step_of (no1 z), fun z => ?_⟩
  obtain ⟨n, hn, rfl⟩ := q0.mp z
  rw [hc.2.2.2, nI_add, show (2000 : Int32) = nI 2000 from rfl, nI_leI (by omega) (by omega)]
  have y1 : ¬ nI n < 0 := nI_pos (by omega)
  have y2 : ¬ 60 < nI n := Int32.not_lt.mpr z.2
  refine ⟨fun y => ?_, fun y => step_of ?_⟩
  · have := cmonths_ok 60 σ r b nl n st S (fun r σ1 => ∃ x, r = some (vI x) ∧ MT 60 mX11_months (vR 0 0 :: [vI (nI n)]) σ1 (fun r2 σ2 => r2 = some (vI x) ∧ Inv σ2)) σ (by omega) hI hO FrA.rf hw (by omega) y (fun σ1 c1 f1 => ⟨_, rfl, ?_⟩) n 0 σ (by omega) FrC.rf hc
    · rwa [nI_0] at this
    · have m1 := f1.cm hm
      refine wX11_months 60 _ σ1 _ ⟨fun z => absurd z y1, fun _ => ⟨fun z => absurd z y2, fun _ => ?_⟩⟩
      rw [m1.2.2.2, nI_add, show (2000 : Int32) = nI 2000 from rfl, nI_leI (by omega) (by omega)]
      refine ⟨fun _ => ?_, fun z => absurd y z⟩
      have := mmonths_ok 60 σ r b nl n st S (fun r2 σ2 => r2 = some (vI (nI (S.2.2.2 + n))) ∧ Inv σ2) σ1 (by omega) hI hO (FrA.rf.c f1) hw (by omega) y (fun σ2 c2 f2 => ⟨rfl, pure_Inv hI ((FrA.rf.c f1).m f2) (f2.cc c1) c2 (mosP_WF hI hO hw n y).1⟩) n 0 σ1 (by omega) FrM.rf m1
      rwa [nI_0] at this
  · refine wX11_months 60 _ σ _ ⟨fun z => absurd z y1, fun _ => ⟨fun z => absurd z y2, fun _ => ?_⟩⟩
    rw [hm.2.2.2, nI_add, show (2000 : Int32) = nI 2000 from rfl, nI_leI (by omega) (by omega)]
    exact ⟨fun z => absurd z y, fun _ => hno⟩
