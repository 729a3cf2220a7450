/-! a month older: the loads -/
def agl (ls : List Ld) : List Ld := ls.map (fun q => (q.1, q.2.1, q.2.2.1 + 1, q.2.2.2.1, q.2.2.2.2))
theorem LG.age {k1 k2 k3 k4 k5 : Nat} {σ σ2 : HS} (e1 : σ2.1 k1 = σ.1 k1) (e2 : σ2.1 k2 = σ.1 k2) (e4 : σ2.1 k4 = σ.1 k4) (e5 : σ2.1 k5 = σ.1 k5) : ∀ {ls : List Ld} {b : Nat}, (∀ j, b ≤ j → j < b + ls.length → σ2.1 k3 0 j = σ.1 k3 0 j + 1) → LG k1 k2 k3 k4 k5 σ b ls → LG k1 k2 k3 k4 k5 σ2 b (agl ls)
  | [], _, _, _ => True.intro
  | q :: r, b, hc, h => by
    obtain ⟨⟨h1, h2, h3, h4, h5⟩, h6⟩ := h
    have hl : (q :: r).length = r.length + 1 := rfl
    exact ⟨⟨by rw [e1, h1], by rw [e2, h2], by rw [hc b (by omega) (by omega), h3, nI_1], by rw [e4, h4], by rw [e5, h5]⟩, LG.age e1 e2 e4 e5 (fun j hj1 hj2 => hc j (by omega) (by omega)) h6⟩
def agS (S : MS) : MS := (S.1, agl S.2.1, S.2.2.1, S.2.2.2)
theorem cgrow_loop (d N : Nat) (σ : HS) (Q : Option AV → HS → Prop) (hN : N ≤ 60) (hs : σ.1 5 0 5 = nI N) (h : Q none (upB σ 68 0 0 N (fun j => σ.1 68 0 j + 1))) : ∀ m w : Nat, w + m = N → atX0_grow_2 d Q (upB σ 68 0 0 w (fun j => σ.1 68 0 j + 1)) (nI w) := by
  intro m
  induction m with
  | zero =>
    intro w hw
    have e : w = N := by omega
    subst e
    exact wX0_grow_2 d Q _ _ ⟨fun _ => h, fun z => absurd (by rw [upB_ne (by decide), hs]; exact nI_le (Nat.le_refl _) (by omega)) z⟩
  | succ m ih =>
    intro w hw
    have vw : vp_in (nI w) 60 := vp_in_nI (by omega) (by omega)
    refine wX0_grow_2 d Q _ _ ⟨fun z => ?_, fun _ => ⟨vw, vw, ?_⟩⟩
    · rw [upB_ne (by decide), hs] at z
      exact absurd z (nI_ge (by omega) (by omega))
    · rintro _ rfl _ rfl
      rw [nI_clamp (by omega), upB_k, if_neg (by omega), nI_1]
      have := upB_succ (σ := σ) (k := 68) (i := 0) (b := 0) (n := w) (f := fun j => σ.1 68 0 j + 1)
      rw [Nat.zero_add] at this
      rw [this]
      exact ih (w + 1) (by omega)
theorem cgrow_ok (d : Nat) (S : MS) (σ : HS) (Q : Option AV → HS → Prop) (hc : CC σ S) (hl : S.2.1.length ≤ 60) (h : ∀ σ2, CC σ2 (agS S) → FrC σ σ2 → Q none σ2) : MT d mX0_grow [vR 5 0] σ Q := by
  refine wX0_grow d σ Q ?_
  have := cgrow_loop d S.2.1.length σ Q hl hc.2.1.1 (h _ ⟨hc.1.kinds (upB_ne (by decide)) (upB_ne (by decide)), ⟨by rw [upB_ne (by decide)]; simp [agS, agl]; exact hc.2.1.1, LG.age (upB_ne (by decide)) (upB_ne (by decide)) (upB_ne (by decide)) (upB_ne (by decide)) (fun j _ hj => by rw [upB_k, if_pos ⟨rfl, by omega, by omega⟩, Nat.sub_zero]) hc.2.1.2⟩, hc.2.2.1.kinds (upB_ne (by decide)), by rw [upB_ne (by decide)]; exact hc.2.2.2⟩ (FrC.setB FrC.rf (by decide) (by decide))) S.2.1.length 0 (by omega)
  rw [upB_0, nI_0] at this
  exact this
theorem mgrow_loop (d N : Nat) (σ : HS) (Q : Option AV → HS → Prop) (hN : N ≤ 60) (hs : σ.1 0 0 43 = nI N) (h : atX11_age_28 d Q (upB σ 35 0 0 N (fun j => σ.1 35 0 j + 1)) 0) : ∀ m w : Nat, w + m = N → atX11_age_2 d Q (upB σ 35 0 0 w (fun j => σ.1 35 0 j + 1)) (nI w) := by
  intro m
  induction m with
  | zero =>
    intro w hw
    have e : w = N := by omega
    subst e
    exact wX11_age_2 d Q _ _ ⟨fun _ => h, fun z => absurd (by rw [upB_ne (by decide), hs]; exact nI_le (Nat.le_refl _) (by omega)) z⟩
  | succ m ih =>
    intro w hw
    have vw : vp_in (nI w) 60 := vp_in_nI (by omega) (by omega)
    refine wX11_age_2 d Q _ _ ⟨fun z => ?_, fun _ => ⟨vw, vw, ?_⟩⟩
    · rw [upB_ne (by decide), hs] at z
      exact absurd z (nI_ge (by omega) (by omega))
    · rintro _ rfl _ rfl
      rw [nI_clamp (by omega), upB_k, if_neg (by omega), nI_1]
      have := upB_succ (σ := σ) (k := 35) (i := 0) (b := 0) (n := w) (f := fun j => σ.1 35 0 j + 1)
      rw [Nat.zero_add] at this
      rw [this]
      exact ih (w + 1) (by omega)
theorem mgrow_ok (d : Nat) (S : MS) (σ : HS) (Q : Option AV → HS → Prop) (hc : CM σ S) (hl : S.2.1.length ≤ 60) (h : ∀ σ2, CM σ2 (agS S) → FrM σ σ2 → atX11_age_28 d Q σ2 0) : MT d mX11_age [vR 0 0] σ Q := by
  refine wX11_age d σ Q ?_
  have := mgrow_loop d S.2.1.length σ Q hl hc.2.1.1 (h _ ⟨hc.1.kinds (upB_ne (by decide)), ⟨by rw [upB_ne (by decide)]; simp [agS, agl]; exact hc.2.1.1, LG.age (upB_ne (by decide)) (upB_ne (by decide)) (upB_ne (by decide)) (upB_ne (by decide)) (fun j _ hj => by rw [upB_k, if_pos ⟨rfl, by omega, by omega⟩, Nat.sub_zero]) hc.2.1.2⟩, hc.2.2.1.kinds (upB_ne (by decide)), by rw [upB_ne (by decide)]; exact hc.2.2.2⟩ (FrM.setB FrM.rf (by decide) (by decide))) S.2.1.length 0 (by omega)
  rw [upB_0, nI_0] at this
  exact this
/-! a month older: a row of lots -/
def olF (f : Nat → Nat) (K a : Nat) : Nat := if a = 0 then 0 else if a ≤ K then f (a - 1) else 0
def spF (f : Nat → Nat) (K a : Nat) : Nat := if K ≤ a then f a else 0
theorem ol_sp (f : Nat → Nat) (K : Nat) : ∀ m, sm (olF f K) (m + 1) + sm (spF f K) m = sm f m
  | 0 => by simp [sm, olF]
  | m + 1 => by
    have ih := ol_sp f K m
    have h1 := sm_succ (olF f K) (m + 1)
    have h2 := sm_succ (spF f K) m
    have h3 := sm_succ f m
    have h4 : olF f K (m + 1) + spF f K m = f m := by
      unfold olF spF
      by_cases e : K ≤ m
      · rw [if_neg (by omega), if_neg (by omega), if_pos e, Nat.zero_add]
      · rw [if_neg (by omega), if_pos (by omega), if_neg e, Nat.add_sub_cancel, Nat.add_zero]
    omega
theorem ol_sum (f : Nat → Nat) {K : Nat} (hK : K ≤ 60) : sm (olF f K) 61 + sm (spF f K) 61 = sm f 61 := by
  have h1 := ol_sp f K 61
  have h2 := sm_succ (olF f K) 61
  have h3 : olF f K 61 = 0 := by unfold olF; rw [if_neg (by omega), if_neg (by omega)]
  omega
def gwF (f : Nat → Nat) (K m s : Nat) : Nat := if m < s then olF f K s else if s = m then 0 else f s
theorem gwF_step1 (f : Nat → Nat) {K m s : Nat} (h : K ≤ m) (hs : s < 61) : (if s = m then 0 else gwF f K (m + 1) s) = gwF f K m s := by
  unfold gwF
  by_cases e : s = m
  · rw [if_pos e, if_neg (by omega), if_pos e]
  · rw [if_neg e]
    by_cases e2 : m + 1 < s
    · rw [if_pos e2, if_pos (by omega)]
    · rw [if_neg e2]
      by_cases e3 : s = m + 1
      · rw [if_pos e3, if_pos (by omega)]
        unfold olF
        rw [if_neg (by omega), if_neg (by omega)]
      · rw [if_neg e3, if_neg (by omega), if_neg e]
theorem gwF_step2 (f : Nat → Nat) {K m s : Nat} (h : m < K) : (if s = m + 1 then f m else if s = m then 0 else gwF f K (m + 1) s) = gwF f K m s := by
  unfold gwF
  by_cases e : s = m + 1
  · rw [if_pos e, if_pos (by omega)]
    unfold olF
    rw [if_neg (by omega), if_pos (by omega), e, Nat.add_sub_cancel]
  · rw [if_neg e]
    by_cases e1 : s = m
    · rw [if_pos e1, if_neg (by omega), if_pos e1]
    · rw [if_neg e1]
      by_cases e2 : m + 1 < s
      · rw [if_pos e2, if_pos (by omega)]
      · rw [if_neg e2, if_neg e, if_neg (by omega), if_neg e1]
theorem gwF_0 (f : Nat → Nat) {K s : Nat} : gwF f K 0 s = olF f K s := by
  unfold gwF
  by_cases e : 0 < s
  · rw [if_pos e]
  · rw [if_neg e, if_pos (by omega)]
    unfold olF
    rw [if_pos (by omega)]
theorem gwF_61 (f : Nat → Nat) {K s : Nat} (hs : s < 61) : gwF f K 61 s = f s := by
  unfold gwF
  rw [if_neg (by omega), if_neg (by omega)]
theorem grow_loop (d t k K : Nat) (f : Nat → Nat) (σ : HS) (Q : Option AV → HS → Prop) (ht : t < 8) (hk : k < 3) (hK : K ≤ 60) (hf2 : ∀ a, a < 61 → f a ≤ 100000) (hH : σ.1 63 t k = nI (sm f 61)) (hS : sm f 61 ≤ 100000) (h0 : 0 < sm f 61)
    (h : Q (some (vI (nI (sm (spF f K) 61)))) (up (upB σ 65 (3 * t + k) 0 61 (fun s => nI (olF f K s))) 63 t k (nI (sm (olF f K) 61)))) :
    ∀ m : Nat, m ≤ 61 → atX9_grow_14 d Q (upB σ 65 (3 * t + k) 0 61 (fun s => nI (gwF f K m s))) t (nI k) (nI K) (3 * t + k) (nI (sm (spF f K) 61 - sm (spF f K) m)) (nI m - 1) := by
  have vk : vp_in (nI k) 3 := vp_in_nI hk (by omega)
  intro m
  induction m with
  | zero =>
    intro _
    refine wX9_grow_14 d Q _ t _ _ _ _ _ ht (by omega) ⟨fun _ => ⟨vk, vk, ?_⟩, fun q => absurd (by decide) q⟩
    rintro _ rfl
    rw [nI_clamp (by omega), upB_ne (by decide), hH]
    have e1 : sm (spF f K) 61 - sm (spF f K) 0 = sm (spF f K) 61 := Nat.sub_zero _
    have e2 := ol_sum f hK
    have e3 : sm f 61 - sm (spF f K) 61 = sm (olF f K) 61 := by omega
    rw [e1, pk_sub (by omega), e3]
    have e4 : upB σ 65 (3 * t + k) 0 61 (fun s => nI (gwF f K 0 s)) = upB σ 65 (3 * t + k) 0 61 (fun s => nI (olF f K s)) := upB_cong (fun j _ => by rw [gwF_0])
    rw [e4]
    exact h
  | succ m ih =>
    intro hm
    have vm : vp_in (nI m) 61 := vp_in_nI (by omega) (by omega)
    have ih := ih (by omega)
    have e6 : gwF f K (m + 1) m = f m := by unfold gwF; rw [if_neg (by omega), if_neg (by omega)]
    rw [nI_pred]
    refine wX9_grow_14 d Q _ t _ _ _ _ _ ht (by omega) ⟨fun q => absurd q (nI_pos (by omega)), fun _ => ⟨vk, fun q => ?_, fun _ => ⟨vm, ?_⟩⟩⟩
    · rw [nI_clamp (by omega), upB_ne (by decide), hH] at q
      exact absurd q (nI_nle h0 (by omega))
    · rintro _ rfl
      rw [nI_clamp (by omega), upB_k, if_pos ⟨rfl, by omega, by omega⟩, Nat.sub_zero, e6]
      refine ⟨vm, ?_⟩
      rintro _ rfl
      rw [upB0_up (by omega)]
      have e7 : nI m + (-1) = nI m - 1 := by rw [Int32.sub_eq_add_neg]
      have h2 := sm_mono (spF f K) (m := m + 1) (n := 61) hm
      have h3 := sm_succ (spF f K) m
      have fin1 : K ≤ m → ∀ x31 : Int32, x31 = nI (sm (spF f K) 61 - sm (spF f K) (m + 1)) + nI (f m) → ∀ x33 : Int32, x33 = nI m + (-1) → atX9_grow_14 d Q (upB σ 65 (3 * t + k) 0 61 (fun s => if s = m then 0 else nI (gwF f K (m + 1) s))) t (nI k) (nI K) (3 * t + k) x31 x33 := by
        intro hKm
        rintro _ rfl _ rfl
        have e8 : spF f K m = f m := by unfold spF; rw [if_pos hKm]
        have e9 : sm (spF f K) 61 - sm (spF f K) (m + 1) + f m = sm (spF f K) 61 - sm (spF f K) m := by omega
        have e10 : upB σ 65 (3 * t + k) 0 61 (fun s => if s = m then 0 else nI (gwF f K (m + 1) s)) = upB σ 65 (3 * t + k) 0 61 (fun s => nI (gwF f K m s)) := upB_cong (fun j hj => by
          rw [← gwF_step1 f hKm hj]
          by_cases e : j = m
          · rw [if_pos e, if_pos e, nI_0]
          · rw [if_neg e, if_neg e])
        rw [nI_add, e9, e7, e10]
        exact ih
      refine ⟨fun q => fin1 ((nI_leI (by omega) (by omega)).mp q), fun q => ⟨fun q2 => fin1 ?_, fun q2 => ⟨?_, ?_⟩⟩⟩
      · have := (nI_leI (a := 60) (by omega) (by omega)).mp q2
        omega
      · have := Nat.lt_of_not_le (fun y => q2 (nI_le (a := 60) y (by omega)))
        rw [nI_1]
        exact vp_in_nI (by omega) (by omega)
      · have hm2 := Nat.lt_of_not_le (fun y => q2 (nI_le (a := 60) y (by omega)))
        have hmK := Nat.lt_of_not_le (fun y => q (nI_le (a := K) y (by omega)))
        rintro _ rfl _ rfl
        rw [nI_1, nI_clamp (by omega), upB0_up (by omega), e7]
        have e8 : spF f K m = 0 := by unfold spF; rw [if_neg (by omega)]
        have e9 : sm (spF f K) 61 - sm (spF f K) (m + 1) = sm (spF f K) 61 - sm (spF f K) m := by omega
        have e10 : upB σ 65 (3 * t + k) 0 61 (fun s => if s = m + 1 then nI (f m) else if s = m then 0 else nI (gwF f K (m + 1) s)) = upB σ 65 (3 * t + k) 0 61 (fun s => nI (gwF f K m s)) := upB_cong (fun j hj => by
          rw [← gwF_step2 f hmK]
          by_cases e : j = m + 1
          · rw [if_pos e, if_pos e]
          · rw [if_neg e, if_neg e]
            by_cases e : j = m
            · rw [if_pos e, if_pos e, nI_0]
            · rw [if_neg e, if_neg e])
        rw [e9, e10]
        exact ih
theorem grow_ok (d t k K : Nat) (f : Nat → Nat) (σ : HS) (Q : Option AV → HS → Prop) (ht : t < 8) (hk : k < 3) (hK : K ≤ 60) (hf : ∀ a, a < 61 → σ.1 65 (3 * t + k) a = nI (f a)) (hf2 : ∀ a, a < 61 → f a ≤ 100000) (hH : σ.1 63 t k = nI (sm f 61)) (hS : sm f 61 ≤ 100000)
    (h : Q (some (vI (nI (sm (spF f K) 61)))) (up (upB σ 65 (3 * t + k) 0 61 (fun s => nI (olF f K s))) 63 t k (nI (sm (olF f K) 61)))) : MT d mX9_grow [vR 3 t, vI (nI k), vI (nI K)] σ Q := by
  have vk : vp_in (nI k) 3 := vp_in_nI hk (by omega)
  refine wX9_grow d t _ _ σ Q ht ⟨vk, ?_⟩
  rw [nI_clamp (by omega)]
  by_cases h0 : 0 < sm f 61
  · have := grow_loop d t k K f σ Q ht hk hK hf2 hH hS h0 h 61 (Nat.le_refl _)
    rw [Nat.sub_self, upB_self (fun j hj => by rw [Nat.zero_add, gwF_61 f hj, hf j hj])] at this
    exact this
  · have z : ∀ a, a < 61 → f a = 0 := fun a ha => by have := sm_part f ha; omega
    have e2 := ol_sum f hK
    have e0 : σ.1 63 t k = 0 := by rw [hH, show sm f 61 = 0 by omega, nI_0]
    have e3 : up (upB σ 65 (3 * t + k) 0 61 (fun s => nI (olF f K s))) 63 t k (nI (sm (olF f K) 61)) = σ := by
      rw [upB_self (fun j hj => ?_), up_self ?_]
      · rw [e0, show sm (olF f K) 61 = 0 by omega, nI_0]
      · rw [Nat.zero_add, hf j hj]
        unfold olF
        by_cases a : j = 0
        · rw [if_pos a, z j hj]
        · rw [if_neg a]
          by_cases b : j ≤ K
          · rw [if_pos b, z _ (by omega), z j hj]
          · rw [if_neg b, z j hj]
    rw [e3, show sm (spF f K) 61 = 0 by omega, nI_0] at h
    refine wX9_grow_14 d Q σ t _ _ _ _ _ ht (by omega) ⟨fun q => absurd q (by decide), fun _ => ⟨vk, fun q => ⟨vk, vk, ?_⟩, fun q => absurd (by rw [nI_clamp (by omega), e0]; decide) q⟩⟩
    rintro _ rfl
    rw [nI_clamp (by omega), e0, up_self (by rw [e0]; rfl)]
    exact h
