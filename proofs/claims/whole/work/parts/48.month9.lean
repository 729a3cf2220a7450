theorem msd_loop (d : Nat) (G : HS) (A C to k fr dd r b nl l : Nat) (st : Nat → Nat) (σ0 : HS) (Q : Option AV → HS → Prop) (hd : 2 ≤ d) (hI : Inv G) (hO : OB G r b nl st) (hl : l < nl) (hA : FrA G σ0) (hfr : fr < 8) (hto : to < gN G) (hk : k < 3) (ek : G.1 25 0 (12 * b + l) = nI k) (hdd : dd ≤ 200) (ed : G.1 15 0 (8 * fr + to) = nI dd) (mo : Nat) (hmo : mo ≤ 2000) (hAA : 60 ≤ A) (hc : C ≤ mo + (dd + 29) / 30) : ∀ (m : Nat) (S : MS) (w : Nat) (σ : HS), m ≤ 61 → w ≤ 1000000 → S.2.2.2 = mo → FrM σ0 σ → CM σ S → AL G A C S →
    (∀ σ2, CM σ2 (sdF to k (61 * (3 * fr + k)) (mo + (dd + 29) / 30) m S w) → FrM σ0 σ2 → Q none σ2) → atX11_send_57 d Q σ (nI (12 * b + l)) (nI fr) (nI to) (nI w) (nI m - 1) := by
  obtain ⟨n8, _, _⟩ := hI.nle
  obtain ⟨hr, hb, hnl, _, _, _, _, _, _, _, _, _⟩ := hO
  have vl : vp_in (nI (12 * b + l)) 24 := vp_in_nI (by omega) (by omega)
  intro m
  induction m with
  | zero =>
    intro S w σ _ _ _ f0 c0 _ h
    exact wX11_send_57 d Q σ _ _ _ _ _ (by omega) ⟨fun _ => h σ c0 f0, fun z => absurd (by decide) z⟩
  | succ m ih =>
    intro S w σ hm hw es f0 c0 al h
    have ih := fun S w σ => ih S w σ (by omega)
    have hA2 := hA.m f0
    rw [nI_pred]
    have e3 : nI m + (-1) = nI m - 1 := by rw [Int32.sub_eq_add_neg]
    have ek2 : σ.1 25 0 (12 * b + l) = nI k := by rw [hA2.k (k := 25) (by decide) (by decide)]; exact ek
    have hj := al.1.le (fun t ht => (hI.rle t ht).1) (j := 61 * (3 * fr + k) + m) (by omega)
    have el := c0.1 (61 * (3 * fr + k) + m) (by omega)
    have hlen60 := al.2.1
    refine wX11_send_57 d Q σ _ _ _ _ _ (by omega) ⟨fun z => absurd z (nI_pos (by omega)), fun _ => ⟨fun y => ?_, fun y => ⟨vl, ?_⟩⟩⟩
    · rw [c0.2.1.1] at y
      have := (nI_leI (a := 60) (by omega) (by omega)).mp y
      rw [sdF_stop (Or.inr this)] at h
      exact h σ c0 f0
    rw [c0.2.1.1] at y
    have hlen := Nat.lt_of_not_le (fun x => y (nI_le (a := 60) x (by omega)))
    rw [nI_clamp (n := 12 * b + l) (by omega), ek2, lot_nI]
    rintro _ rfl
    have hv : vp_in (nI (61 * (3 * fr + k) + m)) 1464 := vp_in_nI (by omega) (by omega)
    have key : ∀ n, n = min w (S.1 (61 * (3 * fr + k) + m)) → atX11_send_109 d Q σ (nI (12 * b + l)) (nI fr) (nI to) (nI w) (nI m) (nI (61 * (3 * fr + k) + m)) (nI n) := by
      intro n hn
      rw [sdF_succ] at h
      refine wX11_send_109 d Q σ _ _ _ _ _ _ _ (by omega) ⟨fun z => ⟨hv, hv, ?_⟩, fun z => ?_⟩
      · have hz : 0 < n := Nat.pos_of_ne_zero (fun x => z (by rw [x]; decide))
        rw [if_pos ⟨hlen, by omega⟩] at h
        rw [← hn] at h
        have vs : vp_in (nI S.2.1.length) 60 := vp_in_nI hlen (by omega)
        rintro _ rfl _ rfl
        rw [nI_clamp (n := 61 * (3 * fr + k) + m) (by omega), el, pk_sub (by omega), pk_sub (by omega)]
        rw [up_ne (show (0 : Nat) ≠ 17 by decide), c0.2.1.1, nI_clamp (n := S.2.1.length) (by omega)]
        refine ⟨vs, ?_⟩
        rintro _ rfl
        rw [up_ne (show (0 : Nat) ≠ 33 by decide), up_ne (show (0 : Nat) ≠ 17 by decide), c0.2.1.1, nI_clamp (n := S.2.1.length) (by omega), nI_clamp (n := 12 * b + l) (by omega), up_ne (show (25 : Nat) ≠ 33 by decide), up_ne (show (25 : Nat) ≠ 17 by decide), ek2]
        refine ⟨vl, vs, ?_⟩
        rintro _ rfl
        rw [up_ne (show (0 : Nat) ≠ 34 by decide), up_ne (show (0 : Nat) ≠ 33 by decide), up_ne (show (0 : Nat) ≠ 17 by decide), c0.2.1.1, nI_clamp (n := S.2.1.length) (by omega)]
        refine ⟨vs, ?_⟩
        rintro _ rfl
        rw [up_ne (show (0 : Nat) ≠ 35 by decide), up_ne (show (0 : Nat) ≠ 34 by decide), up_ne (show (0 : Nat) ≠ 33 by decide), up_ne (show (0 : Nat) ≠ 17 by decide), c0.2.1.1, nI_clamp (n := S.2.1.length) (by omega)]
        refine ⟨vs, ?_⟩
        rintro _ rfl
        have e8 : 8 * nI fr + nI to = nI (8 * fr + to) := by rw [show (8 : Int32) = nI 8 from rfl, pk_mul, nI_add]
        have eD : σ.1 15 0 (8 * fr + to) = nI dd := by rw [hA2.k (k := 15) (by decide) (by decide)]; exact ed
        rw [e8, nI_clamp (n := 8 * fr + to) (by omega)]
        rw [up_ne (show (0 : Nat) ≠ 36 by decide), up_ne (show (0 : Nat) ≠ 35 by decide), up_ne (show (0 : Nat) ≠ 34 by decide), up_ne (show (0 : Nat) ≠ 33 by decide), up_ne (show (0 : Nat) ≠ 17 by decide), c0.2.1.1, nI_clamp (n := S.2.1.length) (by omega), c0.2.2.2, es]
        rw [up_ne (show (15 : Nat) ≠ 36 by decide), up_ne (show (15 : Nat) ≠ 35 by decide), up_ne (show (15 : Nat) ≠ 34 by decide), up_ne (show (15 : Nat) ≠ 33 by decide), up_ne (show (15 : Nat) ≠ 17 by decide), eD]
        have ec : nI mo + (nI dd + 29) / 30 = nI (mo + (dd + 29) / 30) := by
          rw [show (29 : Int32) = nI 29 from rfl, nI_add, show (30 : Int32) = nI 30 from rfl, pk_div (by omega) (by omega) (by omega), nI_add]
        rw [ec]
        refine ⟨vp_in_nI (by omega) (by omega), vs, ?_⟩
        rintro _ rfl _ rfl _ rfl
        rw [up_ne (show (0 : Nat) ≠ 37 by decide), up_ne (show (0 : Nat) ≠ 36 by decide), up_ne (show (0 : Nat) ≠ 35 by decide), up_ne (show (0 : Nat) ≠ 34 by decide), up_ne (show (0 : Nat) ≠ 33 by decide), up_ne (show (0 : Nat) ≠ 17 by decide), c0.2.1.1, nI_1, e3]
        generalize hσ : up _ 0 0 43 (nI (S.2.1.length + 1)) = σ2
        have fc : ∀ k j, k = 33 ∨ k = 34 ∨ k = 35 ∨ k = 36 ∨ k = 37 → j ≠ S.2.1.length → σ2.1 k 0 j = σ.1 k 0 j := by
          intro k j hk hj
          rw [← hσ]
          rcases hk with rfl | rfl | rfl | rfl | rfl <;> simp [up_k, up_ne, hj]
        have f2 : FrM σ σ2 := by
          rw [← hσ]
          exact FrM.setM (FrM.set (FrM.set (FrM.set (FrM.set (FrM.set (FrM.set FrM.rf (by decide) (by decide)) (by decide) (by decide)) (by decide) (by decide)) (by decide) (by decide)) (by decide) (by decide)) (by decide) (by decide)) (Or.inr rfl)
        have c2 : CM σ2 (oneS S to k (61 * (3 * fr + k) + m) m n (mo + (dd + 29) / 30)) := by
          refine ⟨(MLo.pt (j := 61 * (3 * fr + k) + m) (v := S.1 (61 * (3 * fr + k) + m) - n) c0.1).kinds (by rw [← hσ]; simp [up_ne]), ⟨by rw [← hσ, up_same]; simp [oneS], ?_⟩, c0.2.2.1.kinds (by rw [← hσ]; simp [up_ne]), by rw [← hσ, up_k, if_neg (by decide)]; simp [up_ne]; exact c0.2.2.2⟩
          refine LG.app.mpr ⟨LG.cong (fun k j hk _ hj => fc k j hk (by omega)) c0.2.1.2, ⟨?_, True.intro⟩⟩
          rw [← hσ]
          simp [up_k, up_ne]
        exact ih (oneS S to k (61 * (3 * fr + k) + m) m n (mo + (dd + 29) / 30)) (w - n) σ2 (by omega) es (f0.tr f2) c2 (oneS_AL hI al hlen (by omega) (by omega) hto hk hAA hc (by omega) (by omega)) h
      · rw [← nI_0] at z
        have hz := (nI_eq (by omega) (by omega)).mp z
        rintro _ rfl
        rw [if_neg (by omega)] at h
        rw [e3]
        exact ih S w σ hw es f0 c0 al h
    rw [nI_clamp (n := 61 * (3 * fr + k) + m) (by omega), el]
    refine ⟨hv, fun z => ⟨hv, key _ ?_⟩, fun z => key _ ?_⟩
    · have := (nI_leI (by omega) (by omega)).mp z
      omega
    · have := Nat.lt_of_not_le (fun x => z (nI_le (b := w) x (by omega)))
      omega
theorem msd_ok (d : Nat) (G : HS) (A C r b nl l : Nat) (st : Nat → Nat) (S : MS) (σ : HS) (Q : Option AV → HS → Prop) (hd : 2 ≤ d) (hI : Inv G) (hO : OB G r b nl st) (hl : l < nl) (hA : FrA G σ) (hc : CM σ S) (al : AL G A C S) (hAA : 60 ≤ A) (hmo : S.2.2.2 ≤ 2000) (hC : C ≤ S.2.2.2 + 1) (h : ∀ σ2, CM σ2 (obP G b l S) → FrM σ σ2 → Q none σ2) : MT d mX11_send [vR 0 0, vI (nI (12 * b + l))] σ Q := by
  have hO2 := hO
  obtain ⟨hr, hb, hnl, _, _, eb, _, _, s0, s1, hL, hE⟩ := hO2
  obtain ⟨_, _, _, _, _, a6, a7, a8, ⟨k, hk3, ek⟩, a10, a11, a12, a13, a14, _⟩ := hL l hl
  obtain ⟨em, hm7⟩ := isN_vN a7 (by omega)
  obtain ⟨eo, ho7⟩ := isN_vN a11 (by omega)
  obtain ⟨ei, hi7⟩ := isN_vN a13 (by omega)
  have nab : vN (G.1 26 0 (12 * b + l)) ≠ vN (G.1 27 0 (12 * b + l)) := fun z => a14 (by rw [eo, ei, z])
  have hday2 := (hI.2.2.2.1 (vN (G.1 26 0 (12 * b + l))) (vN (G.1 27 0 (12 * b + l))) (by omega) (by omega)).2.2 nab
  have eD : σ.1 15 = G.1 15 := hA.k (by decide) (by decide)
  have e1 : σ.1 26 0 (12 * b + l) = nI (vN (G.1 26 0 (12 * b + l))) := by rw [hA.k (k := 26) (by decide) (by decide)]; exact eo
  have e2 : σ.1 27 0 (12 * b + l) = nI (vN (G.1 27 0 (12 * b + l))) := by rw [hA.k (k := 27) (by decide) (by decide)]; exact ei
  have e3 : σ.1 24 0 (12 * b + l) = nI (vN (G.1 24 0 (12 * b + l))) := by rw [hA.k (k := 24) (by decide) (by decide)]; exact em
  have vl : vp_in (nI (12 * b + l)) 24 := vp_in_nI (by omega) (by omega)
  unfold obP at h
  rw [ek, vN_nI (n := k) (by omega)] at h
  generalize vN (G.1 26 0 (12 * b + l)) = fr at e1 h ho7 nab hday2
  generalize vN (G.1 27 0 (12 * b + l)) = to at e2 h hi7 nab hday2
  generalize vN (G.1 24 0 (12 * b + l)) = w at e3 h hm7
  have e8 : 8 * nI fr + nI to = nI (8 * fr + to) := by rw [show (8 : Int32) = nI 8 from rfl, pk_mul, nI_add]
  refine wX11_send d _ σ Q (by omega) ⟨vl, ?_⟩
  rw [nI_clamp (n := 12 * b + l) (by omega), e1]
  rintro _ rfl
  refine ⟨vl, ?_⟩
  rw [e2]
  rintro _ rfl
  rw [e8, nI_clamp (n := 8 * fr + to) (by omega), eD, e3, hasT_iff2 hI hA (t := fr) (by omega), hasT_iff2 hI hA (t := to) (by omega)]
  refine ⟨fun z => ?_, fun z => ⟨fun y => ?_, fun y => ⟨vp_in_nI (by omega) (by omega), fun x => ⟨vl, ?_⟩, fun x => ?_⟩⟩⟩
  · rw [if_neg (fun v => z v.1)] at h
    exact h σ hc FrM.rf
  · rw [if_neg (fun v => y v.2.1)] at h
    exact h σ hc FrM.rf
  · rcases hday2 with v | ⟨dd, d1, d2, ed⟩
    · rw [v] at x
      exact absurd x (by decide)
    have x' : G.1 15 0 (8 * fr + to) ≠ -1 := fun v => by rw [v] at x; exact absurd x (by decide)
    rw [if_pos ⟨z, y, x'⟩, ed, vN_nI (by omega)] at h
    rintro _ rfl
    exact msd_loop d G A C to k fr dd r b nl l st σ Q hd hI hO hl hA (by omega) y hk3 ek (by omega) ed S.2.2.2 hmo hAA (by omega) 61 S w σ (by omega) (by omega) rfl FrM.rf hc al h
  · rcases hday2 with v | ⟨dd, d1, d2, ed⟩
    · rw [if_neg (fun u => u.2.2 v)] at h
      exact h σ hc FrM.rf
    · rw [ed] at x
      exact absurd (nI_pos' (by omega)) x
/-! a month -/
noncomputable def lnP (G : HS) (b : Nat) (st : Nat → Nat) (l : Nat) (S : MS) : MS := @ite MS (hoP G S b (st l) (st (l + 1))) (Classical.propDecidable _) (obP G b l S) S
theorem lnP_pos {G : HS} {b l : Nat} {st : Nat → Nat} {S : MS} (h : hoP G S b (st l) (st (l + 1))) : lnP G b st l S = obP G b l S := by
  unfold lnP
  exact if_pos h
theorem lnP_neg {G : HS} {b l : Nat} {st : Nat → Nat} {S : MS} (h : ¬ hoP G S b (st l) (st (l + 1))) : lnP G b st l S = S := by
  unfold lnP
  exact if_neg h
noncomputable def moP (G : HS) (b nl : Nat) (st : Nat → Nat) (S : MS) : MS :=
  ((itr (lnP G b st) (eatA G (ageA G (agS (arF G (cutl S) S.2.1)))) nl).1, (itr (lnP G b st) (eatA G (ageA G (agS (arF G (cutl S) S.2.1)))) nl).2.1, (itr (lnP G b st) (eatA G (ageA G (agS (arF G (cutl S) S.2.1)))) nl).2.2.1, S.2.2.2 + 1)
theorem arF_keep {G : HS} {A : Nat} (hI : Inv G) (hAA : A ≤ 3000) : ∀ (ls : List Ld) (S : MS), WT G S.1 → (∀ p, p ∈ ls → p.1 < gN G ∧ p.2.1 < 3 ∧ p.2.2.1 ≤ A ∧ p.2.2.2.1 ≤ 100000 ∧ S.2.2.2 ≤ p.2.2.2.2 ∧ p.2.2.2.2 ≤ 3000) → (∀ p, p ∈ S.2.1 → p.1 < gN G ∧ p.2.1 < 3 ∧ p.2.2.1 ≤ A ∧ p.2.2.2.1 ≤ 100000 ∧ S.2.2.2 + 1 ≤ p.2.2.2.2 ∧ p.2.2.2.2 ≤ 3000) → S.2.1.length + ls.length ≤ 60 → AL G A (S.2.2.2 + 1) (arF G S ls) ∧ (arF G S ls).2.2.2 = S.2.2.2 := by
  obtain ⟨n8, _, _⟩ := hI.nle
  intro ls
  induction ls with
  | nil =>
    intro S hT _ hs hn
    exact ⟨⟨hT, ⟨show S.2.1.length ≤ 60 by simpa using hn, hs⟩⟩, rfl⟩
  | cons q ls ih =>
    intro S hT hl hs hn
    obtain ⟨⟨l1, l2, l3, l4, l5, l6⟩, hl2⟩ := wl_tail hl
    rw [List.length_cons] at hn
    have := ih (arP G S q) (arP_WT hI hT (by omega) l2 (by omega)) (by rw [arP_mo]; exact hl2) ?_ ?_
    · rw [arP_mo] at this
      exact this
    · rw [arP_ls, arP_mo]
      by_cases e : q.2.2.2.2 = S.2.2.2
      · rw [if_pos e]
        exact hs
      · rw [if_neg e]
        intro p hp
        simp only [List.mem_append, List.mem_singleton] at hp
        rcases hp with hp | hp
        · exact hs p hp
        · rw [hp]
          exact ⟨l1, l2, l3, l4, by omega, l6⟩
    · rw [arP_ls]
      by_cases e : q.2.2.2.2 = S.2.2.2
      · rw [if_pos e]
        omega
      · rw [if_neg e, List.length_append, List.length_singleton]
        omega
theorem agS_AL {G : HS} {A C : Nat} {S : MS} (h : AL G A C S) : AL G (A + 1) C (agS S) := by
  refine ⟨h.1, ⟨by simp [agS, agl]; exact h.2.1, fun q hq => ?_⟩⟩
  simp only [agS, agl, List.mem_map] at hq
  obtain ⟨p, hp, rfl⟩ := hq
  obtain ⟨p1, p2, p3, p4, p5, p6⟩ := h.2.2 p hp
  exact ⟨p1, p2, by dsimp only; omega, p4, p5, p6⟩
theorem KP.AL {G : HS} {A C : Nat} {S S2 : MS} (k : KP G S S2) (h : AL G A C S) : AL G A C S2 := ⟨k.1 h.1, by rw [k.2.1]; exact h.2⟩
theorem lnP_AL {G : HS} {A C r b nl l : Nat} {st : Nat → Nat} {S : MS} (hI : Inv G) (hO : OB G r b nl st) (hl : l < nl) (h : AL G A C S) (hA : 60 ≤ A) (hmo : S.2.2.2 ≤ 2000) (hC : C ≤ S.2.2.2 + 1) : AL G A C (lnP G b st l S) ∧ (lnP G b st l S).2.2.2 = S.2.2.2 := by
  obtain ⟨_, _, _, _, _, _, _, _, _, _, hL, _⟩ := hO
  obtain ⟨_, _, _, _, _, _, _, _, a9, _, a11, _, a13, a14, _⟩ := hL l hl
  unfold lnP
  by_cases e : hoP G S b (st l) (st (l + 1))
  · rw [if_pos e]
    exact obP_AL hI a14 a11 a13 a9 h hA hmo hC
  · rw [if_neg e]
    exact ⟨h, rfl⟩
theorem lns_AL {G : HS} {A C r b nl : Nat} {st : Nat → Nat} {S : MS} (hI : Inv G) (hO : OB G r b nl st) (h : AL G A C S) (hA : 60 ≤ A) (hmo : S.2.2.2 ≤ 2000) (hC : C ≤ S.2.2.2 + 1) : ∀ l, l ≤ nl → AL G A C (itr (lnP G b st) S l) ∧ (itr (lnP G b st) S l).2.2.2 = S.2.2.2
  | 0, _ => ⟨h, rfl⟩
  | l + 1, hl => by
    obtain ⟨h1, h2⟩ := lns_AL hI hO h hA hmo hC l (by omega)
    have := lnP_AL (l := l) hI hO (by omega) h1 hA (by omega) (by omega)
    rw [itr_succ]
    exact ⟨this.1, this.2.trans h2⟩
def WF (G : HS) (S : MS) : Prop := S.2.2.2 ≤ 2000 ∧ AL G (60 + S.2.2.2) S.2.2.2 S
theorem mo_parts {G : HS} {S : MS} (hI : Inv G) (h : WF G S) (hm : S.2.2.2 < 2000) : (AL G (60 + S.2.2.2) (S.2.2.2 + 1) (arF G (cutl S) S.2.1) ∧ (arF G (cutl S) S.2.1).2.2.2 = S.2.2.2) ∧ (AL G (61 + S.2.2.2) (S.2.2.2 + 1) (agS (arF G (cutl S) S.2.1))) ∧ AL G (61 + S.2.2.2) (S.2.2.2 + 1) (ageA G (agS (arF G (cutl S) S.2.1))) ∧ AL G (61 + S.2.2.2) (S.2.2.2 + 1) (eatA G (ageA G (agS (arF G (cutl S) S.2.1)))) ∧ (eatA G (ageA G (agS (arF G (cutl S) S.2.1)))).2.2.2 = S.2.2.2 := by
  have h1 := arF_keep (A := 60 + S.2.2.2) hI (by omega) S.2.1 (cutl S) h.2.1 h.2.2.2 (fun p hp => absurd hp (List.not_mem_nil)) (by simp [cutl]; exact h.2.2.1)
  have h2 := agS_AL h1.1
  have e : 60 + S.2.2.2 + 1 = 61 + S.2.2.2 := by omega
  have e2 : (cutl S).2.2.2 = S.2.2.2 := rfl
  rw [e, e2] at h2
  have k3 := KP.ageA (S := agS (arF G (cutl S) S.2.1)) hI
  have k4 := KP.eatA (S := ageA G (agS (arF G (cutl S) S.2.1))) hI
  exact ⟨h1, h2, k3.AL h2, k4.AL (k3.AL h2), k4.2.2.trans (k3.2.2.trans h1.2)⟩
theorem moP_WF {G : HS} {r b nl : Nat} {st : Nat → Nat} {S : MS} (hI : Inv G) (hO : OB G r b nl st) (h : WF G S) (hm : S.2.2.2 < 2000) : WF G (moP G b nl st S) := by
  obtain ⟨_, _, _, h4, h5⟩ := mo_parts hI h hm
  have := (lns_AL hI hO h4 (by omega) (by omega) (by omega) nl (Nat.le_refl _)).1
  refine ⟨by show S.2.2.2 + 1 ≤ 2000; omega, ?_⟩
  have e : 60 + (moP G b nl st S).2.2.2 = 61 + S.2.2.2 := by show 60 + (S.2.2.2 + 1) = _; omega
  rw [e]
  exact this
theorem cmonth_ok (d : Nat) (G : HS) (r b nl : Nat) (st : Nat → Nat) (S : MS) (σ : HS) (Q : Option AV → HS → Prop) (hd : 5 ≤ d) (hI : Inv G) (hO : OB G r b nl st) (hA : FrA G σ) (hc : CC σ S) (hw : WF G S) (hm : S.2.2.2 < 2000) (h : ∀ σ2, CC σ2 (moP G b nl st S) → FrC σ σ2 → Q none σ2) : MT d mX10_passMonth [vR 1 0] σ Q := by
  obtain ⟨⟨p1, p1b⟩, p2, p3, p4, p5⟩ := mo_parts hI hw hm
  have hO2 := hO
  obtain ⟨hr, hb, hnl, er, _, _, eL, _, _, _, _, _⟩ := hO2
  refine wX10_passMonth d σ Q (by omega) ?_
  refine carrive_ok (d - 1) G (60 + S.2.2.2) S σ _ (by omega) hI hA hc hw.2.1 (by omega) hw.1 hw.2.2 (fun σ1 c1 f1 => ⟨rfl, ?_⟩)
  refine cgrow_ok (d - 1) _ σ1 _ c1 p1.2.1 (fun σ2 c2 f2 => ⟨rfl, ?_⟩)
  refine cgrowL_ok (d - 1) G _ σ2 _ (by omega) hI ((hA.c f1).c f2) p2.1 c2 (fun σ3 c3 f3 => ⟨rfl, ?_⟩)
  refine ceat_ok (d - 1) G _ σ3 _ (by omega) hI (((hA.c f1).c f2).c f3) p3.1 c3 (fun σ4 c4 f4 => ⟨rfl, ?_⟩)
  have f04 := ((f1.tr f2).tr f3).tr f4
  unfold moP at h
  generalize eatA G (ageA G (agS (arF G (cutl S) S.2.1))) = S4 at h p4 p5 c4
  have key : ∀ m l σ5, l + m = nl → FrC σ σ5 → CC σ5 (itr (lnP G b st) S4 l) → atX10_passMonth_46 d Q σ5 (nI l) := by
    intro m
    induction m with
    | zero =>
      intro l σ5 hl f5 c5
      have e : l = nl := by omega
      subst e
      have hA5 := hA.c f5
      have er5 : σ5.1 6 0 4 = nI r := by rw [hA5.k (k := 6) (by decide) (by decide)]; exact er
      have eL5 : σ5.1 7 r 3 = nI l := by rw [hA5.k (k := 7) (by decide) (by decide)]; exact eL
      have hmo := (lns_AL hI hO p4 (by omega) (by omega) (by omega) l (Nat.le_refl _)).2
      refine wX10_passMonth_46 d Q σ5 _ (by omega) ?_
      rw [er5, nI_clamp (n := r) (by omega), eL5]
      refine ⟨hr, fun _ => ?_, fun z => absurd (nI_le (Nat.le_refl _) (by omega)) z⟩
      rintro _ rfl
      rw [c5.2.2.2, nI_1]
      refine h _ ⟨c5.1.kinds (up_ne (by decide)) (up_ne (by decide)), ⟨by rw [up_ne (by decide)]; exact c5.2.1.1, c5.2.1.2.kinds (up_ne (by decide)) (up_ne (by decide)) (up_ne (by decide)) (up_ne (by decide)) (up_ne (by decide))⟩, c5.2.2.1.kinds (up_ne (by decide)), ?_⟩ f5.setL
      rw [up_same, hmo, p5]
    | succ m ih =>
      intro l σ5 hl f5 c5
      have hA5 := hA.c f5
      have er5 : ∀ σ6, FrC σ5 σ6 → σ6.1 6 0 4 = nI r := fun σ6 f6 => by rw [(hA5.c f6).k (k := 6) (by decide) (by decide)]; exact er
      have eL5 : σ5.1 7 r 3 = nI nl := by rw [hA5.k (k := 7) (by decide) (by decide)]; exact eL
      obtain ⟨al, hmo⟩ := lns_AL hI hO p4 (by omega) (by omega) (by omega) l (by omega)
      have ih := ih (l + 1)
      rw [itr_succ] at ih
      generalize itr (lnP G b st) S4 l = S5 at ih al hmo c5
      refine wX10_passMonth_46 d Q σ5 _ (by omega) ?_
      rw [er5 σ5 FrC.rf, nI_clamp (n := r) (by omega), eL5]
      refine ⟨hr, fun z => absurd z (nI_ge (by omega) (by omega)), fun _ => ⟨hr, ?_⟩⟩
      refine cho_ok (d - 1) G S5 r b nl l st σ5 _ (by omega) hI hO (by omega) hA5 c5 al.1 (fun σ6 c6 f6 => ⟨fun z => ⟨_, rfl, fun y => absurd y (by decide), fun _ => ?_⟩, fun z => ⟨_, rfl, fun _ => ?_, fun y => absurd rfl y⟩⟩)
      · rw [er5 σ6 f6, nI_clamp (n := r) (by omega)]
        refine ⟨hr, cob_ok (d - 1) G (61 + S.2.2.2) (S.2.2.2 + 1) r b nl l st S5 σ6 _ (by omega) hI hO (by omega) (hA5.c f6) c6 al (by omega) (by omega) (by omega) (fun σ7 c7 f7 => ⟨rfl, ?_⟩)⟩
        rintro _ rfl
        rw [nI_1]
        exact ih σ7 (by omega) ((f5.tr f6).tr f7) (by rw [lnP_pos z]; exact c7)
      · rintro _ rfl
        rw [nI_1]
        exact ih σ6 (by omega) (f5.tr f6) (by rw [lnP_neg z]; exact c6)
  have := key nl 0 σ4 (by omega) f04 c4
  rwa [nI_0] at this
