/-! a line that holds is obeyed -/
def oneS (S : MS) (to k j m n c : Nat) : MS := (uF S.1 j (S.1 j - n), S.2.1 ++ [(to, k, m, n, c)], S.2.2.1, S.2.2.2)
def sdF (to k base c : Nat) : Nat → MS → Nat → MS
  | 0, S, _ => S
  | m + 1, S, w => if S.2.1.length < 60 ∧ 0 < min w (S.1 (base + m)) then sdF to k base c m (oneS S to k (base + m) m (min w (S.1 (base + m))) c) (w - min w (S.1 (base + m))) else sdF to k base c m S w
theorem sdF_stop {to k base c : Nat} : ∀ {m : Nat} {S : MS} {w : Nat}, w = 0 ∨ 60 ≤ S.2.1.length → sdF to k base c m S w = S
  | 0, _, _, _ => rfl
  | m + 1, S, w, h => by
    unfold sdF
    rw [if_neg (by omega)]
    exact sdF_stop h
def AL (G : HS) (A C : Nat) (S : MS) : Prop := WT G S.1 ∧ WL (gN G) A C S.2.1
theorem WT.less {G : HS} {L : Nat → Nat} {r a v : Nat} (h : WT G L) (hr : r < 24) (ha : a < 61) (hv : v ≤ L (61 * r + a)) : WT G (uF L (61 * r + a) v) := by
  rw [← blF_pt ha]
  have e : r = 3 * (r / 3) + r % 3 := by omega
  rw [e]
  refine WT.blk h (by omega) ?_
  rw [← e]
  have h1 := sm_row_upd (L := L) (r := r) (v := v) ha
  have h2 := h (r / 3) (by omega)
  omega
theorem oneS_AL {G : HS} {A C to k r m n c : Nat} {S : MS} (hI : Inv G) (h : AL G A C S) (hl : S.2.1.length < 60) (hr : r < 24) (hm : m < 61) (hto : to < gN G) (hk : k < 3) (hA : 60 ≤ A) (hc : C ≤ c) (hc2 : c ≤ 3000) (hn : n ≤ S.1 (61 * r + m)) : AL G A C (oneS S to k (61 * r + m) m n c) := by
  have hj := h.1.le (fun t ht => (hI.rle t ht).1) (j := 61 * r + m) (by omega)
  refine ⟨WT.less h.1 hr hm (Nat.sub_le _ _), ⟨by simp [oneS]; omega, fun q hq => ?_⟩⟩
  simp only [oneS, List.mem_append, List.mem_singleton] at hq
  rcases hq with hq | hq
  · exact h.2.2 q hq
  · rw [hq]
    exact ⟨hto, hk, by dsimp only; omega, by dsimp only; omega, hc, hc2⟩
theorem sdF_succ (to k base c m : Nat) (S : MS) (w : Nat) : sdF to k base c (m + 1) S w = if S.2.1.length < 60 ∧ 0 < min w (S.1 (base + m)) then sdF to k base c m (oneS S to k (base + m) m (min w (S.1 (base + m))) c) (w - min w (S.1 (base + m))) else sdF to k base c m S w := rfl
theorem sdF_AL {G : HS} {A C to k r c : Nat} (hI : Inv G) (hr : r < 24) (hto : to < gN G) (hk : k < 3) (hA : 60 ≤ A) (hc : C ≤ c) (hc2 : c ≤ 3000) : ∀ (m : Nat), m ≤ 61 → ∀ (S : MS) (w : Nat), AL G A C S → AL G A C (sdF to k (61 * r) c m S w) ∧ (sdF to k (61 * r) c m S w).2.2.2 = S.2.2.2 := by
  intro m
  induction m with
  | zero => exact fun _ S w h => ⟨h, rfl⟩
  | succ m ih =>
    intro hm S w h
    rw [sdF_succ]
    by_cases e : S.2.1.length < 60 ∧ 0 < min w (S.1 (61 * r + m))
    · rw [if_pos e]
      exact ih (by omega) _ _ (oneS_AL hI h e.1 hr (by omega) hto hk hA hc hc2 (by omega))
    · rw [if_neg e]
      exact ih (by omega) _ _ h
theorem uF_self {α : Type} {f : Nat → α} {i : Nat} : uF f i (f i) = f := by
  funext j
  unfold uF
  by_cases e : j = i
  · rw [if_pos e, e]
  · rw [if_neg e]
theorem cob_loop (d : Nat) (G : HS) (A C to k fr c : Nat) (σ0 : HS) (Q : Option AV → HS → Prop) (hd : 2 ≤ d) (hI : Inv G) (hfr : fr < 8) (hto : to < gN G) (hk : k < 3) (hAA : 60 ≤ A) (hc : C ≤ c) (hc2 : c ≤ 3000) : ∀ (m : Nat) (S : MS) (w : Nat) (σ : HS), m ≤ 61 → w ≤ 1000000 → FrC σ0 σ → CC σ S → AL G A C S →
    (∀ σ2, CC σ2 (sdF to k (61 * (3 * fr + k)) c m S w) → FrC σ0 σ2 → Q none σ2) → atX10_obey_111 d Q σ (nI to) (nI k) (nI c) (nI w) fr (nI m - 1) := by
  intro m
  induction m with
  | zero =>
    intro S w σ _ _ f0 c0 _ h
    exact wX10_obey_111 d Q σ _ _ _ _ fr _ (by omega) hfr ⟨fun _ => h σ c0 f0, fun z => absurd (by decide) z⟩
  | succ m ih =>
    intro S w σ hm hw f0 c0 al h
    have ih := fun S w σ => ih S w σ (by omega)
    rw [nI_pred]
    have hw0 : ∀ x : Nat, x ≤ 60 → ¬ nI x < 0 := fun x hx => nI_pos (by omega)
    refine wX10_obey_111 d Q σ _ _ _ _ fr _ (by omega) hfr ⟨fun z => absurd z (hw0 m (by omega)), fun _ => ⟨fun z => ?_, fun z => ⟨fun y => ?_, fun y => ?_⟩⟩⟩
    · rw [← nI_0] at z
      have := (nI_leI (by omega) (by omega)).mp z
      rw [sdF_stop (Or.inl (by omega))] at h
      exact h σ c0 f0
    · rw [c0.2.1.1] at y
      have := (nI_leI (a := 60) (by omega) (by have := al.2.1; omega)).mp y
      rw [sdF_stop (Or.inr this)] at h
      exact h σ c0 f0
    · rw [c0.2.1.1] at y
      have hlen := Nat.lt_of_not_le (fun x => y (nI_le (a := 60) x (by have := al.2.1; omega)))
      have hLj := row_le hI al.1 (r := 3 * fr + k) (a := m) (by omega) (by omega)
      have hp := sm_part (row S.1 (3 * fr + k)) (i := m) (n := 61) (by omega)
      have e3 : nI m + (-1) = nI m - 1 := by rw [Int32.sub_eq_add_neg]
      rw [sdF_succ] at h
      refine removeOfAge_ok (d - 1) fr k m w (row S.1 (3 * fr + k) m) (sm (row S.1 (3 * fr + k)) 61) σ _ (by omega) hfr hk (by omega) (by omega) (c0.1.1 _ _ (by omega) (by omega)) (by omega) (c0.1.2 fr k hfr hk) (by omega) ⟨_, rfl, fun z2 => ?_, fun z2 => ?_⟩
      · rw [← nI_0] at z2
        have hz := (nI_leI (by omega) (by omega)).mp z2
        rintro _ rfl
        rw [if_neg (fun x => by have := x.2; unfold row at hz; omega)] at h
        have hz0 : min w (row S.1 (3 * fr + k) m) = 0 := by omega
        rw [hz0, e3, Nat.sub_zero, Nat.sub_zero, up_self (show σ.1 65 (3 * fr + k) m = nI (row S.1 (3 * fr + k) m) from c0.1.1 _ _ (by omega) (by omega)), up_self (c0.1.2 fr k hfr hk)]
        exact ih S w σ hw f0 c0 al h
      · have hz : 0 < min w (row S.1 (3 * fr + k) m) := Nat.pos_of_ne_zero (fun x => z2 (by rw [x]; decide))
        rw [if_pos ⟨hlen, hz⟩] at h
        have cc : CC _ (setL S (uF S.1 (61 * (3 * fr + k) + m) (S.1 (61 * (3 * fr + k) + m) - min w (row S.1 (3 * fr + k) m)))) := CC.lots c0 (CLo.pt (t := fr) (k := k) (a := m) (v := S.1 (61 * (3 * fr + k) + m) - min w (row S.1 (3 * fr + k) m)) (H := sm (row S.1 (3 * fr + k)) 61 - min w (row S.1 (3 * fr + k) m)) c0.1 hfr hk (by omega) (by unfold row at hp hz ⊢; omega)) (fun k ka kb => by rw [up_ne kb, up_ne ka])
        refine csend_ok (d - 1) _ to k m (min w (row S.1 (3 * fr + k) m)) c _ _ cc hlen (fun σ2 c2 f2 _ => ⟨rfl, ?_⟩)
        rintro _ rfl _ rfl
        rw [pk_sub (by omega), e3]
        exact ih _ _ σ2 (by omega) (f0.tr (((FrC.rf.set (by decide) (by decide)).set (by decide) (by decide)).tr f2)) c2 (oneS_AL hI al hlen (by omega) (by omega) hto hk hAA hc hc2 (by show min w (S.1 _) ≤ S.1 _; omega)) h
def obP (G : HS) (b l : Nat) (S : MS) : MS :=
  if vN (G.1 26 0 (12 * b + l)) < gN G ∧ vN (G.1 27 0 (12 * b + l)) < gN G ∧ G.1 15 0 (8 * vN (G.1 26 0 (12 * b + l)) + vN (G.1 27 0 (12 * b + l))) ≠ -1 then
    sdF (vN (G.1 27 0 (12 * b + l))) (vN (G.1 25 0 (12 * b + l))) (61 * (3 * vN (G.1 26 0 (12 * b + l)) + vN (G.1 25 0 (12 * b + l)))) (S.2.2.2 + (vN (G.1 15 0 (8 * vN (G.1 26 0 (12 * b + l)) + vN (G.1 27 0 (12 * b + l)))) + 29) / 30) 61 S (vN (G.1 24 0 (12 * b + l)))
  else S
theorem obP_AL {G : HS} {A C b l : Nat} {S : MS} (hI : Inv G) (hne : G.1 26 0 (12 * b + l) ≠ G.1 27 0 (12 * b + l)) (ho : isN (G.1 26 0 (12 * b + l)) 7) (hi : isN (G.1 27 0 (12 * b + l)) 7) (hk : ∃ k, k < 3 ∧ G.1 25 0 (12 * b + l) = nI k) (h : AL G A C S) (hA : 60 ≤ A) (hmo : S.2.2.2 ≤ 2000) (hC : C ≤ S.2.2.2 + 1) : AL G A C (obP G b l S) ∧ (obP G b l S).2.2.2 = S.2.2.2 := by
  unfold obP
  by_cases e : vN (G.1 26 0 (12 * b + l)) < gN G ∧ vN (G.1 27 0 (12 * b + l)) < gN G ∧ G.1 15 0 (8 * vN (G.1 26 0 (12 * b + l)) + vN (G.1 27 0 (12 * b + l))) ≠ -1
  · rw [if_pos e]
    obtain ⟨k, hk3, ek⟩ := hk
    obtain ⟨eo, ho7⟩ := isN_vN ho (by omega)
    obtain ⟨ei, hi7⟩ := isN_vN hi (by omega)
    have nab : vN (G.1 26 0 (12 * b + l)) ≠ vN (G.1 27 0 (12 * b + l)) := fun z => hne (by rw [eo, ei, z])
    rcases ((hI.2.2.2.1 _ _ (by omega) (by omega)).2.2 nab) with z | ⟨x, x1, x2, ex⟩
    · exact absurd z e.2.2
    · rw [ek, vN_nI (by omega), ex, vN_nI (by omega)]
      exact sdF_AL hI (by omega) e.2.1 hk3 hA (by omega) (by omega) 61 (by omega) S _ h
  · rw [if_neg e]
    exact ⟨h, rfl⟩
theorem cob_ok (d : Nat) (G : HS) (A C r b nl l : Nat) (st : Nat → Nat) (S : MS) (σ : HS) (Q : Option AV → HS → Prop) (hd : 2 ≤ d) (hI : Inv G) (hO : OB G r b nl st) (hl : l < nl) (hA : FrA G σ) (hc : CC σ S) (al : AL G A C S) (hAA : 60 ≤ A) (hmo : S.2.2.2 ≤ 2000) (hC : C ≤ S.2.2.2 + 1) (h : ∀ σ2, CC σ2 (obP G b l S) → FrC σ σ2 → Q none σ2) : MT d mX10_obey [vR 1 0, vR 7 r, vI (nI l)] σ Q := by
  obtain ⟨hr, hb, hnl, _, _, eb, _, _, s0, s1, hL, hE⟩ := hO
  obtain ⟨_, _, _, _, _, a6, a7, a8, ⟨k, hk3, ek⟩, a10, a11, a12, a13, a14, _⟩ := hL l hl
  obtain ⟨em, hm7⟩ := isN_vN a7 (by omega)
  obtain ⟨eo, ho7⟩ := isN_vN a11 (by omega)
  obtain ⟨ei, hi7⟩ := isN_vN a13 (by omega)
  have nab : vN (G.1 26 0 (12 * b + l)) ≠ vN (G.1 27 0 (12 * b + l)) := fun z => a14 (by rw [eo, ei, z])
  have hday := hI.2.2.2.1 (vN (G.1 26 0 (12 * b + l))) (vN (G.1 27 0 (12 * b + l))) (by omega) (by omega)
  have eD : σ.1 61 = G.1 61 := hA.k (by decide) (by decide)
  have e1 : σ.1 76 r l = nI (vN (G.1 26 0 (12 * b + l))) := by rw [hA.k (k := 76) (by decide) (by decide), a10]; exact eo
  have e2 : σ.1 77 r l = nI (vN (G.1 27 0 (12 * b + l))) := by rw [hA.k (k := 77) (by decide) (by decide), a12]; exact ei
  have e3 : σ.1 74 r l = nI (vN (G.1 24 0 (12 * b + l))) := by rw [hA.k (k := 74) (by decide) (by decide), a6]; exact em
  have e4 : σ.1 75 r l = nI k := by rw [hA.k (k := 75) (by decide) (by decide), a8]; exact ek
  have vl : vp_in (nI l) 12 := vp_in_nI (by omega) (by omega)
  unfold obP at h
  rw [ek, vN_nI (n := k) (by omega)] at h
  rw [← hday.1] at h
  have hday2 := hday.2.2 nab
  rw [← hday.1] at hday2
  generalize vN (G.1 26 0 (12 * b + l)) = fr at e1 h ho7 nab hday2
  generalize vN (G.1 27 0 (12 * b + l)) = to at e2 h hi7 nab hday2
  generalize vN (G.1 24 0 (12 * b + l)) = w at e3 h hm7
  have vf : vp_in (nI fr) 8 := vp_in_nI (by omega) (by omega)
  have vt : vp_in (nI to) 8 := vp_in_nI (by omega) (by omega)
  refine wX10_obey d r _ σ Q hd hr ⟨vl, ?_⟩
  rw [nI_clamp (n := l) (by omega), e1]
  rintro _ rfl
  refine ⟨vl, ?_⟩
  rw [e2]
  rintro _ rfl
  rw [nI_clamp (n := fr) (by omega), nI_clamp (n := to) (by omega), eD, e3, e4, hasT_iff hI hA (t := fr) (by omega), hasT_iff hI hA (t := to) (by omega)]
  refine ⟨fun z => ?_, fun z => ⟨fun y => ?_, fun y => ⟨vf, vt, fun x => ⟨vl, ?_⟩, fun x => ?_⟩⟩⟩
  · rw [if_neg (fun v => z v.1)] at h
    exact h σ hc FrC.rf
  · rw [if_neg (fun v => y v.2.1)] at h
    exact h σ hc FrC.rf
  · rw [if_pos ⟨z, y, x⟩] at h
    rcases hday2 with v | ⟨dd, d1, d2, ed⟩
    · exact absurd v x
    rw [ed, vN_nI (by omega)] at h
    rintro _ rfl
    refine ⟨vf, vt, ?_⟩
    have ec : σ.1 2 0 4 + (G.1 61 fr to + 30 - 1) / 30 = nI (S.2.2.2 + (dd + 29) / 30) := by
      rw [hc.2.2.2, ed, show (30 : Int32) = nI 30 from rfl, nI_add, show (1 : Int32) = nI 1 from rfl, pk_sub (by omega), pk_div (by omega) (by omega) (by omega), nI_add]
      rfl
    rw [ec]
    rintro _ rfl
    refine ⟨vl, ?_⟩
    rintro _ rfl
    refine ⟨vf, ?_⟩
    exact cob_loop d G A C to k fr (S.2.2.2 + (dd + 29) / 30) σ Q hd hI (by omega) y hk3 hAA (by omega) (by omega) 61 S w σ (by omega) (by omega) FrC.rf hc al h
  · rw [if_neg (fun v => v.2.2 x)] at h
    exact h σ hc FrC.rf
