def ageB (G : HS) (S : MS) (t k : Nat) : MS := sadd (setL S (blF S.1 (3 * t + k) (olF (row S.1 (3 * t + k)) (gK G k)))) 1 (nI (sm (spF (row S.1 (3 * t + k)) (gK G k)) 61))
def eatT (G : HS) (S : MS) (t : Nat) : MS := sadd (setL S (blF S.1 (3 * t + 0) (tkF (row S.1 (3 * t + 0)) (gP G t)))) 0 (nI (gP G t) - nI (min (gP G t) (sm (row S.1 (3 * t + 0)) 61)))
def itr (g : Nat → MS → MS) (S : MS) : Nat → MS
  | 0 => S
  | n + 1 => g n (itr g S n)
theorem itr_succ (g : Nat → MS → MS) (S : MS) (n : Nat) : itr g S (n + 1) = g n (itr g S n) := rfl
def ageT (G : HS) (t : Nat) (S : MS) : MS := itr (fun k S => ageB G S t k) S 3
def ageA (G : HS) (S : MS) : MS := itr (ageT G) S (gN G)
def eatA (G : HS) (S : MS) : MS := itr (fun t S => eatT G S t) S (gN G)
/-- what a step on lots keeps -/
def KP (G : HS) (S S2 : MS) : Prop := (WT G S.1 → WT G S2.1) ∧ S2.2.1 = S.2.1 ∧ S2.2.2.2 = S.2.2.2
theorem KP.rf {G : HS} {S : MS} : KP G S S := ⟨id, rfl, rfl⟩
theorem KP.tr {G : HS} {S S2 S3 : MS} (h : KP G S S2) (g : KP G S2 S3) : KP G S S3 := ⟨fun w => g.1 (h.1 w), g.2.1.trans h.2.1, g.2.2.trans h.2.2⟩
theorem KP.age {G : HS} {S : MS} {t k : Nat} (hI : Inv G) (ht : t < 8) (hk : k < 3) : KP G S (ageB G S t k) := by
  refine ⟨fun w => WT.blk w hk ?_, rfl, rfl⟩
  have h1 := ol_sum (row S.1 (3 * t + k)) (hI.kle k hk).2.1
  have h2 := w t ht
  omega
theorem KP.eat {G : HS} {S : MS} {t : Nat} (ht : t < 8) : KP G S (eatT G S t) := by
  refine ⟨fun w => WT.blk w (by omega) ?_, rfl, rfl⟩
  rw [tkF_total]
  have h2 := w t ht
  omega
theorem KP.itr {G : HS} {S : MS} {g : Nat → MS → MS} {N : Nat} (h : ∀ i S, i < N → KP G S (g i S)) : ∀ n, n ≤ N → KP G S (itr g S n)
  | 0, _ => KP.rf
  | n + 1, hn => (KP.itr h n (by omega)).tr (h n _ (by omega))
theorem KP.ageT {G : HS} {S : MS} {t : Nat} (hI : Inv G) (ht : t < 8) : KP G S (ageT G t S) := KP.itr (N := 3) (fun _ _ hk => KP.age hI ht hk) 3 (Nat.le_refl _)
theorem KP.ageA {G : HS} {S : MS} (hI : Inv G) : KP G S (ageA G S) := KP.itr (N := gN G) (fun t _ ht => KP.ageT hI (by have := hI.nle.1; omega)) _ (Nat.le_refl _)
theorem KP.eatA {G : HS} {S : MS} (hI : Inv G) : KP G S (eatA G S) := KP.itr (N := gN G) (fun t _ ht => KP.eat (by have := hI.nle.1; omega)) _ (Nat.le_refl _)
theorem row_le {G : HS} {L : Nat → Nat} (hI : Inv G) (hT : WT G L) {r a : Nat} (hr : r < 24) (ha : a < 61) : row L r a ≤ 100000 := hT.le (fun t ht => (hI.rle t ht).1) (j := 61 * r + a) (by omega)
theorem sm_row_le {G : HS} {L : Nat → Nat} (hI : Inv G) (hT : WT G L) {t k : Nat} (ht : t < 8) (hk : k < 3) : sm (row L (3 * t + k)) 61 ≤ 100000 := by
  have h1 := row_le_tot (L := L) (t := t) hk
  have h2 := hT t ht
  have h3 := (hI.rle t ht).1
  omega
/-- a row changed, class -/
theorem CLo.rw {σ : HS} {L : Nat → Nat} {t k H : Nat} {f : Nat → Nat} (h : CLo σ L) (hk : k < 3) (hH : H = sm f 61) : CLo (up (upB σ 65 (3 * t + k) 0 61 (fun s => nI (f s))) 63 t k (nI H)) (blF L (3 * t + k) f) := by
  refine CLo.blk h hk (fun r s hr hs => ?_) (fun t2 k2 ht2 hk2 => ?_)
  · rw [up_ne (by decide), upB_k]
    by_cases e : r = 3 * t + k
    · rw [if_pos ⟨e, by omega, by omega⟩, if_pos e, Nat.sub_zero]
    · rw [if_neg (fun z => e z.1), if_neg e]
  · rw [up_k, upB_ne (by decide), hH]
theorem cgrowB_ok (d : Nat) (G : HS) (S : MS) (t k : Nat) (σ : HS) (Q : Option AV → HS → Prop) (hI : Inv G) (hA : FrA G σ) (hc : CC σ S) (hT : WT G S.1) (ht : t < 8) (hk : k < 3)
    (h : ∀ σ2, (∀ σ3, σ3 = up σ2 4 0 1 (σ.1 4 0 1 + nI (sm (spF (row S.1 (3 * t + k)) (gK G k)) 61)) → CC σ3 (ageB G S t k) ∧ FrC σ σ3) → Q (some (vI (nI (sm (spF (row S.1 (3 * t + k)) (gK G k)) 61)))) σ2) : MT d mX9_grow [vR 3 t, vI (nI k), vI (σ.1 62 0 k)] σ Q := by
  have eK : σ.1 62 = G.1 62 := hA.k (by decide) (by decide)
  obtain ⟨k1, k2, _, k4⟩ := hI.kle k hk
  rw [eK, k4]
  refine grow_ok d t k (gK G k) (row S.1 (3 * t + k)) σ Q ht hk k2 (fun a ha => hc.1.1 _ _ (by omega) ha) (fun a ha => row_le hI hT (by omega) ha) (hc.1.2 t k ht hk) (sm_row_le hI hT ht hk) (h _ ?_)
  rintro _ rfl
  refine ⟨?_, ((FrC.rf.setB (by decide) (by decide)).set (by decide) (by decide)).set (by decide) (by decide)⟩
  have c2 := CC.lots hc (CLo.rw (t := t) (k := k) (f := olF (row S.1 (3 * t + k)) (gK G k)) hc.1 hk rfl) (fun k ka kb => by rw [up_ne kb, upB_ne ka])
  have c3 := c2.sum (f := 1) (i := 1) (nI (sm (spF (row S.1 (3 * t + k)) (gK G k)) 61)) (by simp)
  rw [up_ne (show (4 : Nat) ≠ 63 by decide), upB_ne (show (4 : Nat) ≠ 65 by decide)] at c3
  exact c3
theorem cgrowL_in (d : Nat) (G : HS) (t : Nat) (Q : Option AV → HS → Prop) (hd : 1 ≤ d) (hI : Inv G) (ht : t < 8) (σ0 : HS) (S : MS) (hA : FrA G σ0) (hT : WT G S.1) (h : ∀ σ2, CC σ2 (ageT G t S) → FrC σ0 σ2 → atX2_growLots_2 d Q σ2 (nI (t + 1))) : ∀ m k σ, k + m = 3 → FrC σ0 σ → CC σ (itr (fun k S => ageB G S t k) S k) → atX2_growLots_12 d Q σ (nI t) (nI k) := by
  intro m
  induction m with
  | zero =>
    intro k σ hk f0 c0
    have e : k = 3 := by omega
    subst e
    refine wX2_growLots_12 d Q σ _ _ hd ⟨fun _ => ?_, fun z => absurd (nI_le (a := 3) (b := 3) (by omega) (by omega)) z⟩
    rintro _ rfl
    rw [nI_1]
    exact h σ c0 f0
  | succ m ih =>
    intro k σ hk f0 c0
    refine wX2_growLots_12 d Q σ _ _ hd ⟨fun z => absurd z (nI_ge (a := k) (b := 3) (by omega) (by omega)), fun _ => ⟨vp_in_nI ht (by omega), vp_in_nI (by omega) (by omega), ?_⟩⟩
    rw [nI_clamp (by omega), nI_clamp (by omega)]
    refine cgrowB_ok (d - 1) G _ t k σ _ hI (hA.c f0) c0 ((KP.itr (N := 3) (fun _ _ hk => KP.age hI ht hk) k (by omega)).1 hT) ht (by omega) (fun σ2 h2 => ⟨_, rfl, fun σ3 h3 x18 h18 => ?_⟩)
    rw [h18, nI_1]
    obtain ⟨c3, f3⟩ := h2 σ3 h3
    exact ih (k + 1) σ3 (by omega) (f0.tr f3) c3
theorem cgrowL_ok (d : Nat) (G : HS) (S : MS) (σ0 : HS) (Q : Option AV → HS → Prop) (hd : 1 ≤ d) (hI : Inv G) (hA : FrA G σ0) (hT : WT G S.1) (hc : CC σ0 S) (h : ∀ σ2, CC σ2 (ageA G S) → FrC σ0 σ2 → Q none σ2) : MT d mX2_growLots [vR 2 0, vR 4 0] σ0 Q := by
  obtain ⟨n8, n1, n2⟩ := hI.nle
  have key : ∀ m t σ, t + m = gN G → FrC σ0 σ → CC σ (itr (ageT G) S t) → atX2_growLots_2 d Q σ (nI t) := by
    intro m
    induction m with
    | zero =>
      intro t σ ht f0 c0
      have eN : σ.1 2 0 3 = nI (gN G) := ((hA.c f0).2.2.1 0 _ (by decide)).trans n2
      have e : t = gN G := by omega
      subst e
      refine wX2_growLots_2 d Q σ _ ⟨fun _ => h σ c0 f0, fun z => absurd (by rw [eN]; exact nI_le (Nat.le_refl _) (by omega)) z⟩
    | succ m ih =>
      intro t σ ht f0 c0
      have eN : σ.1 2 0 3 = nI (gN G) := ((hA.c f0).2.2.1 0 _ (by decide)).trans n2
      refine wX2_growLots_2 d Q σ _ ⟨fun z => absurd (by rw [eN] at z; exact z) (nI_ge (by omega) (by omega)), fun _ => ?_⟩
      have := cgrowL_in d G t Q hd hI (by omega) σ (itr (ageT G) S t) (hA.c f0) ((KP.itr (N := gN G) (fun t _ ht => KP.ageT hI (by omega)) t (by omega)).1 hT) (fun σ2 c2 f2 => ih (t + 1) σ2 (by omega) (f0.tr f2) c2) 3 0 σ (by omega) FrC.rf c0
      rwa [nI_0] at this
  have := key (gN G) 0 σ0 (by omega) FrC.rf hc
  rw [nI_0] at this
  exact wX2_growLots d σ0 Q this
/-! the reference -/
theorem mage_in (d : Nat) (t k K : Nat) (f : Nat → Nat) (σ : HS) (Q : Option AV → HS → Prop) (hd : 1 ≤ d) (ht : t < 8) (hk : k < 3) (hK : K ≤ 60) (hf2 : ∀ a, a < 61 → f a ≤ 100000) (eK : σ.1 16 0 k = nI K)
    (h : atX11_age_38 d Q (up (upB σ 17 0 (61 * (3 * t + k)) 61 (fun s => nI (olF f K s))) 18 0 1 (σ.1 18 0 1 + nI (sm (spF f K) 61))) (nI t) (nI (k + 1))) :
    ∀ m : Nat, m ≤ 61 → atX11_age_46 d Q (up (upB σ 17 0 (61 * (3 * t + k)) 61 (fun s => nI (gwF f K m s))) 18 0 1 (σ.1 18 0 1 + nI (sm (spF f K) 61 - sm (spF f K) m))) (nI t) (nI k) (nI m - 1) := by
  have vk : vp_in (nI k) 3 := vp_in_nI hk (by omega)
  intro m
  induction m with
  | zero =>
    intro _
    refine wX11_age_46 d Q _ _ _ _ hd ⟨fun _ => ?_, fun q => absurd (by decide) q⟩
    rintro _ rfl
    have e1 : sm (spF f K) 61 - sm (spF f K) 0 = sm (spF f K) 61 := Nat.sub_zero _
    have e4 : upB σ 17 0 (61 * (3 * t + k)) 61 (fun s => nI (gwF f K 0 s)) = upB σ 17 0 (61 * (3 * t + k)) 61 (fun s => nI (olF f K s)) := upB_cong (fun j _ => by rw [gwF_0])
    rw [e1, e4, nI_1]
    exact h
  | succ m ih =>
    intro hm
    have ih := ih (by omega)
    have e6 : gwF f K (m + 1) m = f m := by unfold gwF; rw [if_neg (by omega), if_neg (by omega)]
    have e7 : nI m + (-1) = nI m - 1 := by rw [Int32.sub_eq_add_neg]
    have h2 := sm_mono (spF f K) (m := m + 1) (n := 61) hm
    have h3 := sm_succ (spF f K) m
    have hv : vp_in (nI (61 * (3 * t + k) + m)) 1464 := vp_in_nI (by omega) (by omega)
    have erd : (upB σ 17 0 (61 * (3 * t + k)) 61 (fun s => nI (gwF f K (m + 1) s))).1 17 0 (61 * (3 * t + k) + m) = nI (f m) := by
      rw [upB_k, if_pos ⟨rfl, by omega, by omega⟩, Nat.add_sub_cancel_left, e6]
    rw [nI_pred]
    refine wX11_age_46 d Q _ _ _ _ hd ⟨fun q => absurd q (nI_pos (by omega)), fun _ => ?_⟩
    rintro _ rfl
    rw [lot_nI, nI_1, nI_clamp (by omega), nI_clamp (by omega), nI_1, nI_clamp (by omega), up_ne (show (16 : Nat) ≠ 18 by decide), upB_ne (show (16 : Nat) ≠ 17 by decide), eK]
    refine ⟨vk, fun q => ⟨hv, vp_in_nI ?_ (by omega), ?_⟩, fun q => ⟨hv, ?_⟩⟩
    · have := (nI_leI (by omega) (by omega)).mp q
      omega
    · have hmK := (nI_leI (by omega) (by omega)).mp q
      rintro _ rfl
      refine ⟨hv, ?_⟩
      rintro _ rfl _ rfl
      rw [up_ne (show (17 : Nat) ≠ 18 by decide), erd]
      rw [← up_comm (show (17 : Nat) ≠ 18 by decide), ← up_comm (show (17 : Nat) ≠ 18 by decide)]
      have e8 : 61 * (3 * t + k) + m + 1 = 61 * (3 * t + k) + (m + 1) := by omega
      rw [e8, upB_up (by omega), upB_up (by omega), e7]
      have e8 : spF f K m = 0 := by unfold spF; rw [if_neg (by omega)]
      have e9 : sm (spF f K) 61 - sm (spF f K) (m + 1) = sm (spF f K) 61 - sm (spF f K) m := by omega
      have e10 : upB σ 17 0 (61 * (3 * t + k)) 61 (fun s => if s = m then 0 else if s = m + 1 then nI (f m) else nI (gwF f K (m + 1) s)) = upB σ 17 0 (61 * (3 * t + k)) 61 (fun s => nI (gwF f K m s)) := upB_cong (fun j hj => by
        rw [← gwF_step2 f (show m < K by omega)]
        by_cases e : j = m + 1
        · rw [if_pos e, if_neg (by omega), if_pos e]
        · rw [if_neg e, if_neg e]
          by_cases e : j = m
          · rw [if_pos e, if_pos e, nI_0]
          · rw [if_neg e, if_neg e])
      rw [e9, e10]
      exact ih
    · have hmK : K ≤ m := by have := Nat.lt_of_not_le (fun y => q (nI_le (b := K) y (by omega))); omega
      rintro _ rfl
      refine ⟨hv, ?_⟩
      rintro _ rfl _ rfl
      rw [up_ne (show (17 : Nat) ≠ 18 by decide), erd, up_same, up_up]
      rw [← up_comm (show (17 : Nat) ≠ 18 by decide), upB_up (by omega), e7]
      have e8 : spF f K m = f m := by unfold spF; rw [if_pos hmK]
      have e9 : σ.1 18 0 1 + nI (sm (spF f K) 61 - sm (spF f K) (m + 1)) + nI (f m) = σ.1 18 0 1 + nI (sm (spF f K) 61 - sm (spF f K) m) := by
        rw [Int32.add_assoc, nI_add]
        congr 2
        omega
      have e10 : upB σ 17 0 (61 * (3 * t + k)) 61 (fun s => if s = m then 0 else nI (gwF f K (m + 1) s)) = upB σ 17 0 (61 * (3 * t + k)) 61 (fun s => nI (gwF f K m s)) := upB_cong (fun j hj => by
        rw [← gwF_step1 f hmK hj]
        by_cases e : j = m
        · rw [if_pos e, if_pos e, nI_0]
        · rw [if_neg e, if_neg e])
      rw [e9, e10]
      exact ih
theorem mage_k (d : Nat) (G : HS) (t : Nat) (Q : Option AV → HS → Prop) (hd : 1 ≤ d) (hI : Inv G) (ht : t < 8) (σ0 : HS) (S : MS) (hA : FrA G σ0) (hT : WT G S.1) (h : ∀ σ2, CM σ2 (ageT G t S) → FrM σ0 σ2 → atX11_age_28 d Q σ2 (nI (t + 1))) : ∀ m k σ, k + m = 3 → FrM σ0 σ → CM σ (itr (fun k S => ageB G S t k) S k) → atX11_age_38 d Q σ (nI t) (nI k) := by
  intro m
  induction m with
  | zero =>
    intro k σ hk f0 c0
    have e : k = 3 := by omega
    subst e
    refine wX11_age_38 d Q σ _ _ ⟨fun _ => ?_, fun z => absurd (nI_le (a := 3) (b := 3) (by omega) (by omega)) z⟩
    rintro _ rfl
    rw [nI_1]
    exact h σ c0 f0
  | succ m ih =>
    intro k σ hk f0 c0
    refine wX11_age_38 d Q σ _ _ ⟨fun z => absurd z (nI_ge (a := k) (b := 3) (by omega) (by omega)), fun _ => ?_⟩
    have wt := (KP.itr (N := 3) (fun _ _ hk => KP.age hI ht hk) k (by omega)).1 hT
    generalize hS2 : itr (fun k S => ageB G S t k) S k = S2 at c0 wt
    have eK : σ.1 16 0 k = nI (gK G k) := by
      have : σ.1 16 = G.1 16 := (hA.m f0).k (by decide) (by decide)
      rw [this]
      exact (hI.kle k (by omega)).2.2.1
    have := mage_in d t k (gK G k) (row S2.1 (3 * t + k)) σ Q hd ht (by omega) (hI.kle k (by omega)).2.1 (fun a ha => row_le hI wt (by omega) ha) eK (ih (k + 1) _ (by omega) (f0.tr ((FrM.rf.setB (by decide) (by decide)).set (by decide) (by decide))) ?_) 61 (Nat.le_refl _)
    · rw [Nat.sub_self, upB_self (fun j hj => by rw [gwF_61 _ hj, c0.1 _ (by omega)]; rfl), nI_0, Int32.add_zero, up_self rfl] at this
      exact this
    · rw [itr_succ, hS2]
      have c2 := CM.lots c0 (MLo.blk (r := 3 * t + k) (f := olF (row S2.1 (3 * t + k)) (gK G k)) (g := fun s => nI (olF (row S2.1 (3 * t + k)) (gK G k) s)) c0.1 (fun _ _ => rfl)) (fun k ka => upB_ne ka)
      have c3 := c2.sum (i := 1) (nI (sm (spF (row S2.1 (3 * t + k)) (gK G k)) 61)) (by simp)
      rw [upB_ne (show (18 : Nat) ≠ 17 by decide)] at c3
      exact c3
theorem mage_ok (d : Nat) (G : HS) (S : MS) (σ0 : HS) (Q : Option AV → HS → Prop) (hd : 1 ≤ d) (hI : Inv G) (hA : FrA G σ0) (hT : WT G S.1) (hc : CM σ0 S) (hl : S.2.1.length ≤ 60) (h : ∀ σ2, CM σ2 (ageA G (agS S)) → FrM σ0 σ2 → Q none σ2) : MT d mX11_age [vR 0 0] σ0 Q := by
  obtain ⟨n8, n1, n2⟩ := hI.nle
  refine mgrow_ok d S σ0 Q hc hl (fun σ1 c1 f1 => ?_)
  have key : ∀ m t σ, t + m = gN G → FrM σ0 σ → CM σ (itr (ageT G) (agS S) t) → atX11_age_28 d Q σ (nI t) := by
    intro m
    induction m with
    | zero =>
      intro t σ ht f0 c0
      have eN : σ.1 0 0 7 = nI (gN G) := ((hA.m f0).2.2.2 0 _ (by decide) (by decide)).trans n1
      have e : t = gN G := by omega
      subst e
      refine wX11_age_28 d Q σ _ ⟨fun _ => h σ c0 f0, fun z => absurd (by rw [eN]; exact nI_le (Nat.le_refl _) (by omega)) z⟩
    | succ m ih =>
      intro t σ ht f0 c0
      have eN : σ.1 0 0 7 = nI (gN G) := ((hA.m f0).2.2.2 0 _ (by decide) (by decide)).trans n1
      refine wX11_age_28 d Q σ _ ⟨fun z => absurd (by rw [eN] at z; exact z) (nI_ge (by omega) (by omega)), fun _ => ?_⟩
      have := mage_k d G t Q hd hI (by omega) σ (itr (ageT G) (agS S) t) (hA.m f0) ((KP.itr (N := gN G) (fun t _ ht => KP.ageT hI (by omega)) t (by omega)).1 hT) (fun σ2 c2 f2 => ih (t + 1) σ2 (by omega) (f0.tr f2) c2) 3 0 σ (by omega) FrM.rf c0
      rwa [nI_0] at this
  have := key (gN G) 0 σ1 (by omega) f1 c1
  rwa [nI_0] at this
/-! eating -/
theorem ceat_ok (d : Nat) (G : HS) (S : MS) (σ0 : HS) (Q : Option AV → HS → Prop) (hd : 3 ≤ d) (hI : Inv G) (hA : FrA G σ0) (hT : WT G S.1) (hc : CC σ0 S) (h : ∀ σ2, CC σ2 (eatA G S) → FrC σ0 σ2 → Q none σ2) : MT d mX2_eat [vR 2 0, vR 4 0] σ0 Q := by
  obtain ⟨n8, n1, n2⟩ := hI.nle
  have key : ∀ m t σ, t + m = gN G → FrC σ0 σ → CC σ (itr (fun t S => eatT G S t) S t) → atX2_eat_2 d Q σ (nI t) := by
    intro m
    induction m with
    | zero =>
      intro t σ ht f0 c0
      have eN : σ.1 2 0 3 = nI (gN G) := ((hA.c f0).2.2.1 0 _ (by decide)).trans n2
      have e : t = gN G := by omega
      subst e
      refine wX2_eat_2 d Q σ _ (by omega) ⟨fun _ => h σ c0 f0, fun z => absurd (by rw [eN]; exact nI_le (Nat.le_refl _) (by omega)) z⟩
    | succ m ih =>
      intro t σ ht f0 c0
      have eN : σ.1 2 0 3 = nI (gN G) := ((hA.c f0).2.2.1 0 _ (by decide)).trans n2
      have eP : σ.1 3 t 1 = nI (gP G t) := by
        have : σ.1 3 = G.1 3 := (hA.c f0).k (by decide) (by decide)
        rw [this]
        exact (hI.ple t (by omega)).2.2
      have hP := (hI.ple t (by omega)).1
      have wt := (KP.itr (N := gN G) (fun t _ ht => KP.eat (t := t) (by omega)) t (by omega)).1 hT
      have vt : vp_in (nI t) 8 := vp_in_nI (by omega) (by omega)
      have ih := ih (t + 1)
      rw [itr_succ] at ih
      generalize itr (fun t S => eatT G S t) S t = S2 at c0 wt ih
      refine wX2_eat_2 d Q σ _ (by omega) ⟨fun z => absurd (by rw [eN] at z; exact z) (nI_ge (by omega) (by omega)), fun _ => ⟨vt, ?_⟩⟩
      rintro _ rfl
      refine ⟨vt, ?_⟩
      rw [nI_clamp (by omega), eP, ← nI_0]
      refine removeOldest_ok (d - 1) t 0 (gP G t) (row S2.1 (3 * t + 0)) σ _ (by omega) (by omega) (by omega) (fun a ha => c0.1.1 _ _ (by omega) ha) (fun a ha => row_le hI wt (by omega) ha) (c0.1.2 t 0 (by omega) (by omega)) (sm_row_le hI wt (by omega) (by omega)) (by omega) ⟨_, rfl, ?_⟩
      rintro _ rfl _ rfl
      rw [nI_1]
      refine ih _ (by omega) (f0.tr (((FrC.rf.setB (by decide) (by decide)).set (by decide) (by decide)).set (by decide) (by decide))) ?_
      have c2 := CC.lots c0 (CLo.rw (t := t) (k := 0) (f := tkF (row S2.1 (3 * t + 0)) (gP G t)) c0.1 (by omega) (tkF_total _ _).symm) (fun k ka kb => by rw [up_ne kb, upB_ne ka])
      have c3 := c2.sum (f := 0) (i := 0) (nI (gP G t) - nI (min (gP G t) (sm (row S2.1 (3 * t + 0)) 61))) (by simp)
      rw [up_ne (show (4 : Nat) ≠ 63 by decide), upB_ne (show (4 : Nat) ≠ 65 by decide)] at c3
      exact c3
  have := key (gN G) 0 σ0 (by omega) FrC.rf hc
  rw [nI_0] at this
  exact wX2_eat d σ0 Q this
theorem meat_ok (d : Nat) (G : HS) (S : MS) (σ0 : HS) (Q : Option AV → HS → Prop) (hd : 3 ≤ d) (hI : Inv G) (hA : FrA G σ0) (hT : WT G S.1) (hc : CM σ0 S) (h : ∀ σ2, CM σ2 (eatA G S) → FrM σ0 σ2 → Q none σ2) : MT d mX11_eat [vR 0 0] σ0 Q := by
  obtain ⟨n8, n1, n2⟩ := hI.nle
  have key : ∀ m t σ, t + m = gN G → FrM σ0 σ → CM σ (itr (fun t S => eatT G S t) S t) → atX11_eat_2 d Q σ (nI t) := by
    intro m
    induction m with
    | zero =>
      intro t σ ht f0 c0
      have eN : σ.1 0 0 7 = nI (gN G) := ((hA.m f0).2.2.2 0 _ (by decide) (by decide)).trans n1
      have e : t = gN G := by omega
      subst e
      refine wX11_eat_2 d Q σ _ (by omega) ⟨fun _ => h σ c0 f0, fun z => absurd (by rw [eN]; exact nI_le (Nat.le_refl _) (by omega)) z⟩
    | succ m ih =>
      intro t σ ht f0 c0
      have eN : σ.1 0 0 7 = nI (gN G) := ((hA.m f0).2.2.2 0 _ (by decide) (by decide)).trans n1
      have eP : σ.1 13 0 t = nI (gP G t) := by
        have : σ.1 13 = G.1 13 := (hA.m f0).k (by decide) (by decide)
        rw [this]
        exact (hI.ple t (by omega)).2.1
      have hP := (hI.ple t (by omega)).1
      have wt := (KP.itr (N := gN G) (fun t _ ht => KP.eat (t := t) (by omega)) t (by omega)).1 hT
      have vt : vp_in (nI t) 8 := vp_in_nI (by omega) (by omega)
      have ih := ih (t + 1)
      rw [itr_succ] at ih
      generalize itr (fun t S => eatT G S t) S t = S2 at c0 wt ih
      have hL : ∀ j, j < 1464 → S2.1 j ≤ 100000 := fun j hj => wt.le (fun t ht => (hI.rle t ht).1) hj
      refine wX11_eat_2 d Q σ _ (by omega) ⟨fun z => absurd (by rw [eN] at z; exact z) (nI_ge (by omega) (by omega)), fun _ => ⟨vt, vt, ?_⟩⟩
      rw [nI_clamp (by omega), eP, ← nI_0]
      refine goOut_ok (d - 1) t 0 (gP G t) σ _ (by omega) (by omega) (by omega) (by omega) (c0.1.lok hL) (row S2.1 (3 * t + 0)) (c0.1.row hL (by omega)) ⟨_, rfl, ?_⟩
      rintro _ rfl _ rfl
      rw [nI_1]
      refine ih _ (by omega) (f0.tr ((FrM.rf.setB (by decide) (by decide)).set (by decide) (by decide))) ?_
      have c2 := CM.lots c0 (MLo.blk (r := 3 * t + 0) (f := tkF (row S2.1 (3 * t + 0)) (gP G t)) (g := fun s => nI (tkF (row S2.1 (3 * t + 0)) (gP G t) s)) c0.1 (fun _ _ => rfl)) (fun k ka => upB_ne ka)
      have c3 := c2.sum (i := 0) (nI (gP G t) - nI (min (gP G t) (sm (row S2.1 (3 * t + 0)) 61))) (by simp)
      rw [upB_ne (show (18 : Nat) ≠ 17 by decide)] at c3
      exact c3
  have := key (gN G) 0 σ0 (by omega) FrM.rf hc
  rw [nI_0] at this
  exact wX11_eat d σ0 Q this
