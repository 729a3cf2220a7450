def setL (S : MS) (L : Nat → Nat) : MS := (L, S.2.1, S.2.2.1, S.2.2.2)
theorem stoP_eq (G : HS) (S : MS) (t k a x : Nat) : stoP G S t k a x = sadd (setL S (uF S.1 (61 * (3 * t + k) + a) (S.1 (61 * (3 * t + k) + a) + min x (gR G t - tot S.1 t)))) 2 (nI x - nI (min x (gR G t - tot S.1 t))) := rfl
theorem CC.lots {σ σ2 : HS} {S : MS} {L : Nat → Nat} (h : CC σ S) (hL : CLo σ2 L) (e : ∀ k, k ≠ 65 → k ≠ 63 → σ2.1 k = σ.1 k) : CC σ2 (setL S L) := by
  obtain ⟨_, ⟨h2, h3⟩, h4, h5⟩ := h
  exact ⟨hL, ⟨by rw [e 5 (by decide) (by decide)]; exact h2, h3.kinds (e _ (by decide) (by decide)) (e _ (by decide) (by decide)) (e _ (by decide) (by decide)) (e _ (by decide) (by decide)) (e _ (by decide) (by decide))⟩, h4.kinds (e _ (by decide) (by decide)), by rw [e 2 (by decide) (by decide)]; exact h5⟩
theorem CC.sum {σ : HS} {S : MS} {f i : Nat} (x : Int32) (h : CC σ S) (hf : (f = 0 ∧ i = 0) ∨ (f = 1 ∧ i = 1) ∨ (f = 2 ∧ i = 2) ∨ (f = 3 ∧ i = 5)) : CC (up σ 4 0 f (σ.1 4 0 f + x)) (sadd S i x) := by
  obtain ⟨h1, ⟨h2, h3⟩, ⟨g0, g1, g2, g5⟩, h5⟩ := h
  refine ⟨h1.kinds (up_ne (by decide)) (up_ne (by decide)), ⟨by rw [up_ne (by decide)]; exact h2, h3.kinds (up_ne (by decide)) (up_ne (by decide)) (up_ne (by decide)) (up_ne (by decide)) (up_ne (by decide))⟩, ?_, by rw [up_ne (by decide)]; exact h5⟩
  unfold CSu sadd
  rcases hf with ⟨rfl, rfl⟩ | ⟨rfl, rfl⟩ | ⟨rfl, rfl⟩ | ⟨rfl, rfl⟩ <;> simp [up_k, uF, g0, g1, g2, g5]
theorem CMx.lots {σ σ2 : HS} {S : MS} {N : Nat} {L : Nat → Nat} (h : CMx σ S N) (hL : MLo σ2 L) (e : ∀ k, k ≠ 17 → σ2.1 k = σ.1 k) : CMx σ2 (setL S L) N := by
  obtain ⟨_, ⟨h2, h3⟩, h4, h5⟩ := h
  exact ⟨hL, ⟨by rw [e 0 (by decide)]; exact h2, h3.kinds (e _ (by decide)) (e _ (by decide)) (e _ (by decide)) (e _ (by decide)) (e _ (by decide))⟩, h4.kinds (e _ (by decide)), by rw [e 0 (by decide)]; exact h5⟩
theorem CMx.sum {σ : HS} {S : MS} {N i : Nat} (x : Int32) (h : CMx σ S N) (hf : i = 0 ∨ i = 1 ∨ i = 2 ∨ i = 5) : CMx (up σ 18 0 i (σ.1 18 0 i + x)) (sadd S i x) N := by
  obtain ⟨h1, ⟨h2, h3⟩, ⟨g0, g1, g2, g5⟩, h5⟩ := h
  refine ⟨h1.kinds (up_ne (by decide)), ⟨by rw [up_ne (by decide)]; exact h2, h3.kinds (up_ne (by decide)) (up_ne (by decide)) (up_ne (by decide)) (up_ne (by decide)) (up_ne (by decide))⟩, ?_, by rw [up_ne (by decide)]; exact h5⟩
  unfold MSu sadd
  rcases hf with rfl | rfl | rfl | rfl <;> simp [up_k, uF, g0, g1, g2, g5]
theorem CM.lots {σ σ2 : HS} {S : MS} {L : Nat → Nat} (h : CM σ S) (hL : MLo σ2 L) (e : ∀ k, k ≠ 17 → σ2.1 k = σ.1 k) : CM σ2 (setL S L) := CMx.lots h hL e
theorem CM.sum {σ : HS} {S : MS} {i : Nat} (x : Int32) (h : CM σ S) (hf : i = 0 ∨ i = 1 ∨ i = 2 ∨ i = 5) : CM (up σ 18 0 i (σ.1 18 0 i + x)) (sadd S i x) := CMx.sum x h hf
/-- one number of a row changed, class -/
theorem CLo.pt {σ : HS} {L : Nat → Nat} {t k a v H : Nat} (h : CLo σ L) (ht : t < 8) (hk : k < 3) (ha : a < 61) (hH : H + L (61 * (3 * t + k) + a) = sm (row L (3 * t + k)) 61 + v) : CLo (up (up σ 65 (3 * t + k) a (nI v)) 63 t k (nI H)) (uF L (61 * (3 * t + k) + a) v) := by
  rw [← blF_pt ha]
  refine CLo.blk h hk (fun r s hr hs => ?_) (fun t2 k2 ht2 hk2 => ?_)
  · rw [up_ne (by decide), up_k]
    by_cases e : r = 3 * t + k
    · subst e
      rw [if_pos rfl]
      by_cases e2 : s = a
      · subst e2
        rw [if_pos ⟨rfl, rfl⟩, uF_s]
      · rw [if_neg (fun z => e2 z.2), uF_n e2, h.1 _ _ hr hs]
        rfl
    · rw [if_neg (fun z => e z.1), if_neg e]
  · rw [up_k, up_ne (by decide)]
    by_cases e : t2 = t ∧ k2 = k
    · rw [if_pos e, if_pos e]
      congr 1
      have := sm_row_upd (L := L) (r := 3 * t + k) (v := v) ha
      omega
    · rw [if_neg e, if_neg e]
theorem MLo.pt {σ : HS} {L : Nat → Nat} {j v : Nat} (h : MLo σ L) : MLo (up σ 17 0 j (nI v)) (uF L j v) := by
  intro i hi
  rw [up_k]
  by_cases e : i = j
  · rw [if_pos ⟨rfl, e⟩, e, uF_s]
  · rw [if_neg (fun z => e z.2), uF_n e]
    exact h i hi
theorem MLo.blk {σ : HS} {L : Nat → Nat} {r : Nat} {f : Nat → Nat} {g : Nat → Int32} (h : MLo σ L) (hg : ∀ a, a < 61 → g a = nI (f a)) : MLo (upB σ 17 0 (61 * r) 61 g) (blF L r f) := by
  intro i hi
  rw [upB_k]
  unfold blF
  by_cases e : 61 * r ≤ i ∧ i < 61 * r + 61
  · rw [if_pos ⟨rfl, e⟩, if_pos e, hg _ (by omega)]
  · rw [if_neg (fun z => e z.2), if_neg e]
    exact h i hi
def OK3 (σ σ2 : HS) : Prop := σ2.2 = σ.2 ∧ ∀ k, k ≠ 65 → k ≠ 63 → k ≠ 4 → σ2.1 k = σ.1 k
theorem OK3.fr {σ σ2 : HS} (h : OK3 σ σ2) : FrC σ σ2 := by
  refine ⟨h.1, fun k hk => h.2 k ?_ ?_ ?_, fun i s _ => by rw [h.2 2 (by decide) (by decide) (by decide)]⟩
  · rintro rfl; exact hk (by decide)
  · rintro rfl; exact hk (by decide)
  · rintro rfl; exact hk (by decide)
theorem unload_ok (d : Nat) (G : HS) (S : MS) (q : Ld) (w : Nat) (σ : HS) (Q : Option AV → HS → Prop) (hd : 2 ≤ d) (hI : Inv G) (hA : FrA G σ) (hc : CC σ S) (hT : WT G S.1) (hw : w < 60)
    (hq : σ.1 66 0 w = nI q.1 ∧ σ.1 67 0 w = nI q.2.1 ∧ σ.1 68 0 w = nI q.2.2.1 ∧ σ.1 69 0 w = nI q.2.2.2.1 ∧ σ.1 70 0 w = nI q.2.2.2.2)
    (wl : q.1 < gN G ∧ q.2.1 < 3 ∧ q.2.2.1 ≤ 3000 ∧ q.2.2.2.1 ≤ 100000) (e : q.2.2.2.2 = S.2.2.2) (h : ∀ σ2, CC σ2 (arP G S q) → OK3 σ σ2 → Q none σ2) : MT d mX0_unload [vR 5 0, vI (nI w), vR 2 0, vR 4 0] σ Q := by
  obtain ⟨w1, w2, w3, w4⟩ := wl
  obtain ⟨q1, q2, q3, q4, q5⟩ := hq
  obtain ⟨n8, _, _⟩ := hI.nle
  have vw : vp_in (nI w) 60 := vp_in_nI hw (by omega)
  obtain ⟨k1, k2, _, k4⟩ := hI.kle q.2.1 w2
  obtain ⟨r1, r2, r3⟩ := hI.rle q.1 (by omega)
  have eK : σ.1 62 = G.1 62 := hA.k (by decide) (by decide)
  have eT : σ.1 3 = G.1 3 := hA.k (by decide) (by decide)
  refine wX0_unload d _ σ Q (by omega) ⟨vw, ?_⟩
  rintro _ rfl
  rw [nI_clamp (by omega), q4]
  intro σ5 h5
  have c5 : CC σ5 (sadd S 5 (nI q.2.2.2.1)) := by rw [h5]; exact hc.sum _ (by simp)
  have o5 : ∀ k, k ≠ 4 → σ5.1 k = σ.1 k := fun k hk => by rw [h5]; exact up_ne hk
  have o5b : σ5.2 = σ.2 := by rw [h5]; rfl
  rw [o5 67 (by decide), o5 68 (by decide), o5 62 (by decide), o5 66 (by decide), q1, q2, q3, eK, nI_clamp (by omega), k4]
  have vk : vp_in (nI q.2.1) 3 := vp_in_nI w2 (by omega)
  refine ⟨vw, vw, vk, fun z => ⟨vw, vp_in_nI (by omega) (by omega), vw, vw, ?_⟩, fun z => ?_⟩
  · have z' := (nI_leI (by omega) (by omega)).mp z
    rw [nI_clamp (by omega)]
    have hH : ∀ k, k < 3 → σ5.1 63 q.1 k = nI (sm (row S.1 (3 * q.1 + k)) 61) := fun k hk => c5.1.2 q.1 k (by omega) hk
    have ht := tot_row S.1 q.1
    refine store_ok (d - 1) q.1 q.2.1 q.2.2.1 q.2.2.2.1 (gR G q.1) (S.1 (61 * (3 * q.1 + q.2.1) + q.2.2.1)) (fun k => sm (row S.1 (3 * q.1 + k)) 61) σ5 _ (by omega) (by omega) w2 (by omega) w4 (by rw [o5 3 (by decide), eT]; exact r3) r1 hH (by have := hT q.1 (by omega); simp only [Nat.add_zero]; omega) (c5.1.1 _ _ (by omega) (by omega)) ⟨_, rfl, ?_⟩
    have hs : sm (row S.1 (3 * q.1 + 0)) 61 + sm (row S.1 (3 * q.1 + 1)) 61 + sm (row S.1 (3 * q.1 + 2)) 61 = tot S.1 q.1 := ht.symm
    rw [hs]
    rintro _ rfl
    refine h _ ?_ ⟨by simp only [up_2]; exact o5b, fun k ka kb kc => by rw [up_ne kc, up_ne kb, up_ne ka]; exact o5 k kc⟩
    unfold arP
    rw [if_pos e, if_neg (by omega), stoP_eq]
    refine CC.sum _ (CC.lots c5 (CLo.pt c5.1 (by omega) w2 (by omega) (by show _ + S.1 _ = sm (row S.1 _) 61 + (S.1 _ + _); omega)) (fun k ka kb => by rw [up_ne kb, up_ne ka])) (by simp)
  · have z' : gK G q.2.1 < q.2.2.1 := Nat.lt_of_not_le (fun y => z (nI_le y (by omega)))
    rintro _ rfl
    refine h _ ?_ ⟨by simp only [up_2]; exact o5b, fun k ka kb kc => by rw [up_ne kc]; exact o5 k kc⟩
    unfold arP
    rw [if_pos e, if_pos z']
    exact CC.sum _ c5 (by simp)
/-- the loads' rows alone -/
theorem csend_ok (d : Nat) (S : MS) (t k a m c : Nat) (σ : HS) (Q : Option AV → HS → Prop) (hc : CC σ S) (hl : S.2.1.length < 60)
    (h : ∀ σ2, CC σ2 (S.1, S.2.1 ++ [(t, k, a, m, c)], S.2.2.1, S.2.2.2) → FrC σ σ2 → (∀ k j, k = 66 ∨ k = 67 ∨ k = 68 ∨ k = 69 ∨ k = 70 → j ≠ S.2.1.length → σ2.1 k 0 j = σ.1 k 0 j) → Q none σ2) : MT d mX0_send [vR 5 0, vI (nI t), vI (nI k), vI (nI a), vI (nI m), vI (nI c)] σ Q := by
  obtain ⟨h1, ⟨h2, h3⟩, h4, h5⟩ := hc
  have vl : vp_in (nI S.2.1.length) 60 := vp_in_nI hl (by omega)
  refine wX0_send d _ _ _ _ _ σ Q ⟨fun _ => ?_, fun z => absurd (by rw [h2]; exact nI_lt (b := 60) hl (by omega)) z⟩
  rw [h2]
  refine ⟨vl, ?_⟩
  rintro _ rfl
  rw [up_ne (by decide), h2]
  refine ⟨vl, ?_⟩
  rintro _ rfl
  rw [up_ne (by decide), up_ne (by decide), h2]
  refine ⟨vl, ?_⟩
  rintro _ rfl
  rw [up_ne (by decide), up_ne (by decide), up_ne (by decide), h2]
  refine ⟨vl, ?_⟩
  rintro _ rfl
  rw [up_ne (by decide), up_ne (by decide), up_ne (by decide), up_ne (by decide), h2]
  refine ⟨vl, ?_⟩
  rintro _ rfl _ rfl
  rw [up_ne (by decide), up_ne (by decide), up_ne (by decide), up_ne (by decide), up_ne (by decide), h2, nI_clamp (by omega), nI_1]
  generalize hσ : up _ 5 0 5 _ = σ2
  have fc : ∀ k j, k = 66 ∨ k = 67 ∨ k = 68 ∨ k = 69 ∨ k = 70 → j ≠ S.2.1.length → σ2.1 k 0 j = σ.1 k 0 j := by
    intro k j hk hj
    rw [← hσ]
    rcases hk with rfl | rfl | rfl | rfl | rfl <;> simp [up_k, up_ne, hj]
  refine h σ2 ⟨h1.kinds (by rw [← hσ]; simp [up_ne]) (by rw [← hσ]; simp [up_ne]), ⟨?_, ?_⟩, h4.kinds (by rw [← hσ]; simp [up_ne]), by rw [← hσ]; simp [up_ne]; exact h5⟩ ?_ fc
  · rw [← hσ, up_same]
    simp
  · show CLG σ2 0 (S.2.1 ++ [(t, k, a, m, c)])
    refine LG.app.mpr ⟨LG.cong (fun k j hk _ hj => fc k j hk (by omega)) h3, ⟨?_, True.intro⟩⟩
    rw [← hσ]
    simp [up_k, up_ne]
  · rw [← hσ]
    exact FrC.set (FrC.set (FrC.set (FrC.set (FrC.set (FrC.set FrC.rf (by decide) (by decide)) (by decide) (by decide)) (by decide) (by decide)) (by decide) (by decide)) (by decide) (by decide)) (by decide) (by decide)
