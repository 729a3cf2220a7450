def arF (G : HS) (S : MS) (ls : List Ld) : MS := ls.foldl (arP G) S
theorem arP_mo (G : HS) (S : MS) (q : Ld) : (arP G S q).2.2.2 = S.2.2.2 := by
  unfold arP
  by_cases e : q.2.2.2.2 = S.2.2.2
  · rw [if_pos e]
    by_cases e2 : gK G q.2.1 < q.2.2.1
    · rw [if_pos e2]; rfl
    · rw [if_neg e2]; rfl
  · rw [if_neg e]
theorem arP_ls (G : HS) (S : MS) (q : Ld) : (arP G S q).2.1 = if q.2.2.2.2 = S.2.2.2 then S.2.1 else S.2.1 ++ [q] := by
  unfold arP
  by_cases e : q.2.2.2.2 = S.2.2.2
  · rw [if_pos e, if_pos e]
    by_cases e2 : gK G q.2.1 < q.2.2.1
    · rw [if_pos e2]; rfl
    · rw [if_neg e2]; rfl
  · rw [if_neg e, if_neg e]
theorem arP_WT {G : HS} {S : MS} {q : Ld} (hI : Inv G) (h : WT G S.1) (h1 : q.1 < 8) (h2 : q.2.1 < 3) (h3 : q.2.2.2.2 = S.2.2.2 → q.2.2.1 ≤ 3000) : WT G (arP G S q).1 := by
  unfold arP
  by_cases e : q.2.2.2.2 = S.2.2.2
  · rw [if_pos e]
    by_cases e2 : gK G q.2.1 < q.2.2.1
    · rw [if_pos e2]; exact h
    · rw [if_neg e2, stoP_eq]
      have hk := (hI.kle q.2.1 h2).2.1
      show WT G (uF S.1 _ (S.1 _ + min _ (gR G q.1 - tot S.1 q.1)))
      rw [← blF_pt (by omega)]
      refine WT.blk h h2 ?_
      have h4 := h q.1 h1
      have h5 := sm_row_upd (L := S.1) (r := 3 * q.1 + q.2.1) (a := q.2.2.1) (v := S.1 (61 * (3 * q.1 + q.2.1) + q.2.2.1) + min q.2.2.2.1 (gR G q.1 - tot S.1 q.1)) (by omega)
      omega
  · rw [if_neg e]; exact h
theorem wl_tail {n A C : Nat} {q : Ld} {ls : List Ld} (h : ∀ p, p ∈ q :: ls → p.1 < n ∧ p.2.1 < 3 ∧ p.2.2.1 ≤ A ∧ p.2.2.2.1 ≤ 100000 ∧ C ≤ p.2.2.2.2 ∧ p.2.2.2.2 ≤ 3000) : (q.1 < n ∧ q.2.1 < 3 ∧ q.2.2.1 ≤ A ∧ q.2.2.2.1 ≤ 100000 ∧ C ≤ q.2.2.2.2 ∧ q.2.2.2.2 ≤ 3000) ∧ ∀ p, p ∈ ls → p.1 < n ∧ p.2.1 < 3 ∧ p.2.2.1 ≤ A ∧ p.2.2.2.1 ≤ 100000 ∧ C ≤ p.2.2.2.2 ∧ p.2.2.2.2 ≤ 3000 :=
  ⟨h q (List.mem_cons_self ..), fun p hp => h p (List.mem_cons_of_mem q hp)⟩
theorem carrive_loop (d : Nat) (G : HS) (N A : Nat) (Q : Option AV → HS → Prop) (hd : 3 ≤ d) (hI : Inv G) (hN : N ≤ 60) (hAA : A ≤ 3000) : ∀ (ls : List Ld) (w : Nat) (S : MS) (σ : HS), w + ls.length = N → S.2.1.length ≤ w → S.2.2.2 ≤ 2000 → FrA G σ → CC σ S → WT G S.1 → CLG σ w ls →
    (∀ p, p ∈ ls → p.1 < gN G ∧ p.2.1 < 3 ∧ p.2.2.1 ≤ A ∧ p.2.2.2.1 ≤ 100000 ∧ S.2.2.2 ≤ p.2.2.2.2 ∧ p.2.2.2.2 ≤ 3000) → (∀ σ2, CC σ2 (arF G S ls) → FrC σ σ2 → Q none σ2) → atX0_arrive_13 d Q σ (nI N) (nI w) := by
  intro ls
  obtain ⟨n8, _, _⟩ := hI.nle
  induction ls with
  | nil =>
    intro w S σ hw hk hmo hA hc hT hg hl h
    have hw' : w = N := by simpa using hw
    subst hw'
    exact wX0_arrive_13 d Q σ _ _ (by omega) ⟨fun _ => h σ hc FrC.rf, fun z => absurd (nI_le (Nat.le_refl _) (by omega)) z⟩
  | cons q ls ih =>
    intro w S σ hw hk hmo hA hc hT hg hl h
    have hw' : w + ls.length + 1 = N := by rw [← hw, List.length_cons]; omega
    obtain ⟨⟨l1, l2, l3, l4, l5, l6⟩, hl2⟩ := wl_tail hl
    obtain ⟨hq, hg2⟩ := hg
    have vw : vp_in (nI w) 60 := vp_in_nI (by omega) (by omega)
    refine wX0_arrive_13 d Q σ _ _ (by omega) ⟨fun z => absurd z (nI_ge (by omega) (by omega)), fun _ => ⟨vw, fun z => ?_, fun z => ?_⟩⟩
    · rw [nI_clamp (by omega), hc.2.2.2, hq.2.2.2.2] at z
      have z' := (nI_ltI (by omega) (by omega)).mp z
      refine ⟨vw, vw, vw, vw, vw, ?_⟩
      rw [nI_clamp (by omega), hq.1, hq.2.1, hq.2.2.1, hq.2.2.2.1, hq.2.2.2.2]
      refine csend_ok (d - 1) S _ _ _ _ _ σ _ hc (by omega) (fun σ2 c2 f2 a2 => ⟨rfl, ?_⟩)
      rintro _ rfl
      rw [nI_1]
      have eq : arP G S q = (S.1, S.2.1 ++ [q], S.2.2.1, S.2.2.2) := by unfold arP; rw [if_neg (by omega)]
      refine ih (w + 1) (arP G S q) σ2 (by omega) (by rw [eq]; simp; omega) (by rw [arP_mo]; exact hmo) (hA.c f2) (by rw [eq]; exact c2) (by rw [eq]; exact hT) (LG.cong (fun k j hk _ _ => a2 k j hk (by omega)) hg2) (by rw [arP_mo]; exact hl2) (fun σ3 c3 f3 => h σ3 c3 (f2.tr f3))
    · rw [nI_clamp (by omega), hc.2.2.2, hq.2.2.2.2] at z
      have z' : q.2.2.2.2 = S.2.2.2 := by have := Nat.le_of_not_lt (fun y => z (nI_lt y (by omega))); omega
      refine unload_ok (d - 1) G S q w σ _ (by omega) hI hA hc hT (by omega) hq ⟨l1, l2, by omega, l4⟩ z' (fun σ2 c2 o2 => ⟨rfl, ?_⟩)
      rintro _ rfl
      rw [nI_1]
      refine ih (w + 1) (arP G S q) σ2 (by omega) (by rw [arP_ls, if_pos z']; omega) (by rw [arP_mo]; exact hmo) (hA.c o2.fr) c2 (arP_WT hI hT (by omega) l2 (by omega)) (hg2.kinds (o2.2 _ (by decide) (by decide) (by decide)) (o2.2 _ (by decide) (by decide) (by decide)) (o2.2 _ (by decide) (by decide) (by decide)) (o2.2 _ (by decide) (by decide) (by decide)) (o2.2 _ (by decide) (by decide) (by decide))) (by rw [arP_mo]; exact hl2) (fun σ3 c3 f3 => h σ3 c3 (o2.fr.tr f3))
def cutl (S : MS) : MS := (S.1, [], S.2.2.1, S.2.2.2)
theorem carrive_ok (d : Nat) (G : HS) (A : Nat) (S : MS) (σ : HS) (Q : Option AV → HS → Prop) (hd : 3 ≤ d) (hI : Inv G) (hA : FrA G σ) (hc : CC σ S) (hT : WT G S.1) (hAA : A ≤ 3000) (hmo : S.2.2.2 ≤ 2000) (hl : WL (gN G) A S.2.2.2 S.2.1) (h : ∀ σ2, CC σ2 (arF G (cutl S) S.2.1) → FrC σ σ2 → Q none σ2) : MT d mX0_arrive [vR 5 0, vR 2 0, vR 4 0] σ Q := by
  refine wX0_arrive d σ Q ?_
  rintro _ rfl _ rfl
  rw [hc.2.1.1, ← nI_0]
  have f1 : FrC σ (up σ 5 0 5 (nI 0)) := FrC.set FrC.rf (by decide) (by decide)
  refine carrive_loop d G S.2.1.length A Q hd hI hl.1 hAA S.2.1 0 (cutl S) _ (by omega) (by simp [cutl]) hmo (hA.c f1) ⟨hc.1.kinds (up_ne (by decide)) (up_ne (by decide)), ⟨up_same, True.intro⟩, hc.2.2.1.kinds (up_ne (by decide)), by rw [up_ne (by decide)]; exact hc.2.2.2⟩ hT (hc.2.1.2.kinds (up_ne (by decide)) (up_ne (by decide)) (up_ne (by decide)) (up_ne (by decide)) (up_ne (by decide))) hl.2 (fun σ2 c2 f2 => h σ2 c2 (f1.tr f2))
theorem MLo.tot {σ : HS} {L : Nat → Nat} (h : MLo σ L) (hL : ∀ j, j < 1464 → L j ≤ 100000) {t : Nat} (ht : t < 8) : sm (fun j => Lm σ (183 * t + j)) 183 = tot L t := sm_cong (fun j hj => h.lm hL (by omega))
theorem MLo.row {σ : HS} {L : Nat → Nat} (h : MLo σ L) (hL : ∀ j, j < 1464 → L j ≤ 100000) {r : Nat} (hr : r < 24) : ∀ a, a < 61 → row L r a = Lm σ (61 * r + a) := fun a ha => (h.lm hL (by omega)).symm
theorem marrive_loop (d : Nat) (G : HS) (N A : Nat) (Q : Option AV → HS → Prop) (hd : 4 ≤ d) (hI : Inv G) (hN : N ≤ 60) (hAA : A ≤ 3000) : ∀ (ls : List Ld) (w : Nat) (S : MS) (σ : HS), w + ls.length = N → S.2.1.length ≤ w → S.2.2.2 ≤ 2000 → FrA G σ → CMx σ S N → WT G S.1 → MLG σ w ls →
    (∀ p, p ∈ ls → p.1 < gN G ∧ p.2.1 < 3 ∧ p.2.2.1 ≤ A ∧ p.2.2.2.1 ≤ 100000 ∧ S.2.2.2 ≤ p.2.2.2.2 ∧ p.2.2.2.2 ≤ 3000) → (∀ σ2, CM σ2 (arF G S ls) → FrM σ σ2 → Q none σ2) → atX11_arrive_4 d Q σ (nI S.2.1.length) (nI w) := by
  intro ls
  obtain ⟨n8, _, _⟩ := hI.nle
  have hR := fun t ht => (hI.rle t ht).1
  induction ls with
  | nil =>
    intro w S σ hw hk hmo hA hc hT hg hl h
    have hw' : w = N := by simpa using hw
    subst hw'
    refine wX11_arrive_4 d Q σ _ _ (by omega) ⟨fun _ => ?_, fun z => absurd (by rw [hc.2.1.1]; exact nI_le (Nat.le_refl _) (by omega)) z⟩
    rintro _ rfl
    exact h _ ⟨hc.1.kinds (up_ne (by decide)), ⟨up_same, hc.2.1.2.kinds (up_ne (by decide)) (up_ne (by decide)) (up_ne (by decide)) (up_ne (by decide)) (up_ne (by decide))⟩, hc.2.2.1.kinds (up_ne (by decide)), by rw [up_k, if_neg (by decide)]; exact hc.2.2.2⟩ (FrM.setM FrM.rf (Or.inr rfl))
  | cons q ls ih =>
    intro w S σ hw hk hmo hA hc hT hg hl h
    have hw' : w + ls.length + 1 = N := by rw [← hw, List.length_cons]; omega
    obtain ⟨⟨l1, l2, l3, l4, l5, l6⟩, hl2⟩ := wl_tail hl
    obtain ⟨⟨q1, q2, q3, q4, q5⟩, hg2⟩ := hg
    have vw : vp_in (nI w) 60 := vp_in_nI (by omega) (by omega)
    have vs : vp_in (nI S.2.1.length) 60 := vp_in_nI (by omega) (by omega)
    refine wX11_arrive_4 d Q σ _ _ (by omega) ⟨fun z => absurd (by rw [hc.2.1.1] at z; exact z) (nI_ge (a := w) (b := N) (by omega) (by omega)), fun _ => ⟨vw, fun z => ?_, fun z => ?_⟩⟩
    · rw [nI_clamp (by omega), hc.2.2.2, q5] at z
      have z' : q.2.2.2.2 ≠ S.2.2.2 := fun y => z (by rw [y])
      have eq : arP G S q = (S.1, S.2.1 ++ [q], S.2.2.1, S.2.2.2) := by unfold arP; rw [if_neg z']
      refine ⟨vw, vs, ?_⟩
      rintro _ rfl
      refine ⟨vw, vs, ?_⟩
      rintro _ rfl
      refine ⟨vw, vs, ?_⟩
      rintro _ rfl
      refine ⟨vw, vs, ?_⟩
      rintro _ rfl
      refine ⟨vw, vs, ?_⟩
      rintro _ rfl _ rfl _ rfl
      simp only [up_ne (show (34 : Nat) ≠ 33 by decide), up_ne (show (35 : Nat) ≠ 33 by decide), up_ne (show (35 : Nat) ≠ 34 by decide), up_ne (show (36 : Nat) ≠ 33 by decide), up_ne (show (36 : Nat) ≠ 34 by decide), up_ne (show (36 : Nat) ≠ 35 by decide), up_ne (show (37 : Nat) ≠ 33 by decide), up_ne (show (37 : Nat) ≠ 34 by decide), up_ne (show (37 : Nat) ≠ 35 by decide), up_ne (show (37 : Nat) ≠ 36 by decide)]
      rw [nI_clamp (by omega), nI_clamp (by omega), q1, q2, q3, q4, q5, nI_1, nI_1]
      generalize hσ : up _ 37 0 S.2.1.length _ = σ2
      have fc : ∀ k j, k = 33 ∨ k = 34 ∨ k = 35 ∨ k = 36 ∨ k = 37 → j ≠ S.2.1.length → σ2.1 k 0 j = σ.1 k 0 j := by
        intro k j hk hj
        rw [← hσ]
        rcases hk with rfl | rfl | rfl | rfl | rfl <;> simp [up_k, up_ne, hj]
      have f2 : FrM σ σ2 := by
        rw [← hσ]
        exact FrM.set (FrM.set (FrM.set (FrM.set (FrM.set FrM.rf (by decide) (by decide)) (by decide) (by decide)) (by decide) (by decide)) (by decide) (by decide)) (by decide) (by decide)
      have c2 : CMx σ2 (S.1, S.2.1 ++ [q], S.2.2.1, S.2.2.2) N := by
        refine ⟨hc.1.kinds (by rw [← hσ]; simp [up_ne]), ⟨by rw [← hσ]; simp [up_ne]; exact hc.2.1.1, ?_⟩, hc.2.2.1.kinds (by rw [← hσ]; simp [up_ne]), by rw [← hσ]; simp [up_ne]; exact hc.2.2.2⟩
        refine LG.app.mpr ⟨LG.cong (fun k j hk _ hj => fc k j hk (by omega)) hc.2.1.2, ⟨?_, True.intro⟩⟩
        rw [← hσ]
        simp [up_k, up_ne]
      have := ih (w + 1) (arP G S q) σ2 (by omega) (by rw [eq]; simp; omega) (by rw [arP_mo]; exact hmo) (hA.m f2) (by rw [eq]; exact c2) (by rw [eq]; exact hT) (LG.cong (fun k j hk _ _ => fc k j hk (by omega)) hg2) (by rw [arP_mo]; exact hl2) (fun σ3 c3 f3 => h σ3 c3 (f2.tr f3))
      rw [eq] at this
      simpa using this
    · rw [nI_clamp (by omega), hc.2.2.2, q5] at z
      have z' : q.2.2.2.2 = S.2.2.2 := (nI_eq (by omega) (by omega)).mp z
      obtain ⟨k1, k2, k3, k4⟩ := hI.kle q.2.1 l2
      obtain ⟨r1, r2, r3⟩ := hI.rle q.1 (by omega)
      have eK : σ.1 16 = G.1 16 := hA.k (by decide) (by decide)
      have eT : σ.1 12 = G.1 12 := hA.k (by decide) (by decide)
      refine ⟨vw, ?_⟩
      rw [nI_clamp (by omega), q4]
      intro σ5 h5
      have c5 : CMx σ5 (sadd S 5 (nI q.2.2.2.1)) N := by rw [h5]; exact hc.sum _ (by simp)
      have o5 : ∀ k, k ≠ 18 → σ5.1 k = σ.1 k := fun k hk => by rw [h5]; exact up_ne hk
      have f5 : FrM σ σ5 := by rw [h5]; exact FrM.set FrM.rf (by decide) (by decide)
      rw [o5 34 (by decide), o5 35 (by decide), o5 16 (by decide), o5 33 (by decide), o5 36 (by decide), q1, q2, q3, q4, eK, nI_clamp (by omega), k3]
      have vk : vp_in (nI q.2.1) 3 := vp_in_nI l2 (by omega)
      have hL5 : ∀ j, j < 1464 → S.1 j ≤ 100000 := fun j hj => hT.le hR hj
      have go : ∀ σ2, CMx σ2 (arP G S q) N → (∀ k, k ≠ 18 → k ≠ 17 → σ2.1 k = σ.1 k) → FrM σ σ2 → atX11_arrive_4 d Q σ2 (nI S.2.1.length) (nI (w + 1)) := by
        intro σ2 c2 o2 f2
        have := ih (w + 1) (arP G S q) σ2 (by omega) (by rw [arP_ls, if_pos z']; omega) (by rw [arP_mo]; exact hmo) (hA.m f2) c2 (arP_WT hI hT (by omega) l2 (by omega)) (hg2.kinds (o2 _ (by decide) (by decide)) (o2 _ (by decide) (by decide)) (o2 _ (by decide) (by decide)) (o2 _ (by decide) (by decide)) (o2 _ (by decide) (by decide))) (by rw [arP_mo]; exact hl2) (fun σ3 c3 f3 => h σ3 c3 (f2.tr f3))
        rw [arP_ls, if_pos z'] at this
        exact this
      refine ⟨vw, vw, vk, fun y => ⟨vw, vw, vw, vw, ?_⟩, fun y => ⟨vw, ?_⟩⟩
      · have y' := (nI_leI (by omega) (by omega)).mp y
        have ht := c5.1.tot hL5 (t := q.1) (by omega)
        refine comeIn_ok (d - 1) q.1 q.2.1 q.2.2.1 q.2.2.2.1 (gR G q.1) σ5 _ (by omega) (by omega) l2 (by omega) l4 (c5.1.lok hL5) (by rw [o5 12 (by decide), eT]; exact r2) r1 (by rw [ht]; exact hT q.1 (by omega)) ⟨_, rfl, ?_⟩
        rintro _ rfl
        have h1 := c5.1.lm hL5 (j := 61 * (3 * q.1 + q.2.1) + q.2.2.1) (by omega)
        rw [ht, h1, nI_1]
        have e2 : σ5.1 18 0 2 = (up σ5 17 0 (61 * (3 * q.1 + q.2.1) + q.2.2.1) (nI ((sadd S 5 (nI q.2.2.2.1)).1 (61 * (3 * q.1 + q.2.1) + q.2.2.1) + min q.2.2.2.1 (gR G q.1 - tot (sadd S 5 (nI q.2.2.2.1)).1 q.1)))).1 18 0 2 := by rw [up_ne (by decide)]
        rw [e2]
        refine go _ ?_ (fun k ka kb => by rw [up_ne ka, up_ne kb]; exact o5 k ka) ((f5.set (by decide) (by decide)).set (by decide) (by decide))
        unfold arP
        rw [if_pos z', if_neg (by omega), stoP_eq]
        exact CMx.sum _ (CMx.lots c5 (MLo.pt c5.1) (fun k ka => up_ne ka)) (by simp)
      · have y' : gK G q.2.1 < q.2.2.1 := Nat.lt_of_not_le (fun x => y (nI_le x (by omega)))
        rintro _ rfl _ rfl
        rw [nI_1]
        refine go _ ?_ (fun k ka kb => by rw [up_ne ka]; exact o5 k ka) (f5.set (by decide) (by decide))
        unfold arP
        rw [if_pos z', if_pos y']
        exact CMx.sum _ c5 (by simp)
theorem marrive_ok (d : Nat) (G : HS) (A : Nat) (S : MS) (σ : HS) (Q : Option AV → HS → Prop) (hd : 4 ≤ d) (hI : Inv G) (hA : FrA G σ) (hc : CM σ S) (hT : WT G S.1) (hAA : A ≤ 3000) (hmo : S.2.2.2 ≤ 2000) (hl : WL (gN G) A S.2.2.2 S.2.1) (h : ∀ σ2, CM σ2 (arF G (cutl S) S.2.1) → FrM σ σ2 → Q none σ2) : MT d mX11_arrive [vR 0 0] σ Q :=
  wX11_arrive d σ Q (marrive_loop d G S.2.1.length A Q hd hI hl.1 hAA S.2.1 0 (cutl S) σ (by omega) (by simp [cutl]) hmo hA ⟨hc.1, ⟨hc.2.1.1, True.intro⟩, hc.2.2.1, hc.2.2.2⟩ hT hc.2.1.2 hl.2 h)
