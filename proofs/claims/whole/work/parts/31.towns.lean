theorem iMin_nI {a b : Nat} (ha : a < 2 ^ 31) (hb : b < 2 ^ 31) : iMin (nI a) (nI b) = nI (min a b) := by
  unfold iMin
  by_cases h : b < a
  · rw [if_pos (nI_lt h ha), Nat.min_eq_right (by omega)]
  · rw [if_neg (nI_nlt (by omega) hb), Nat.min_eq_left (by omega)]
theorem up_self {σ : HS} {k i s : Nat} {x : Int32} (h : σ.1 k i s = x) : up σ k i s x = σ := by
  refine hs_ext (fun k' i' s' => ?_) rfl
  simp only [up]
  by_cases e : k' = k ∧ i' = i ∧ s' = s
  · rw [if_pos e]
    obtain ⟨rfl, rfl, rfl⟩ := e
    exact h.symm
  · rw [if_neg e]
theorem up_up {σ : HS} {k i s : Nat} {x y : Int32} : up (up σ k i s x) k i s y = up σ k i s y := by
  refine hs_ext (fun k' i' s' => ?_) rfl
  simp only [up]
  by_cases e : k' = k ∧ i' = i ∧ s' = s
  · rw [if_pos e, if_pos e]
  · rw [if_neg e, if_neg e, if_neg e]
theorem up_comm {σ : HS} {k i s k' i' s' : Nat} {x y : Int32} (h : k ≠ k') : up (up σ k i s x) k' i' s' y = up (up σ k' i' s' y) k i s x := by
  refine hs_ext (fun a b c => ?_) rfl
  simp only [up]
  by_cases e : a = k ∧ b = i ∧ c = s
  · have : ¬ (a = k' ∧ b = i' ∧ c = s') := fun z => h (e.1.symm.trans z.1)
    rw [if_neg this, if_pos e, if_pos e]
  · by_cases e2 : a = k' ∧ b = i' ∧ c = s'
    · rw [if_pos e2, if_neg e, if_pos e2]
    · rw [if_neg e2, if_neg e, if_neg e, if_neg e2]
theorem upB_comm {σ : HS} {k i b n k' i' s' : Nat} {f : Nat → Int32} {y : Int32} (h : k ≠ k') : up (upB σ k i b n f) k' i' s' y = upB (up σ k' i' s' y) k i b n f := by
  refine hs_ext (fun a c q => ?_) rfl
  simp only [up, upB]
  by_cases e : a = k' ∧ c = i' ∧ q = s'
  · have : ¬ (a = k ∧ c = i ∧ b ≤ q ∧ q < b + n) := fun z => h (z.1.symm.trans e.1)
    rw [if_pos e, if_neg this, if_pos e]
  · rw [if_neg e, if_neg e]
theorem upB0_up {σ : HS} {k i n j : Nat} {f : Nat → Int32} {x : Int32} (hj : j < n) : up (upB σ k i 0 n f) k i j x = upB σ k i 0 n (fun s => if s = j then x else f s) := by
  have := upB_up (σ := σ) (k := k) (i := i) (b := 0) (f := f) (x := x) hj
  rwa [Nat.zero_add] at this
theorem store_ok (d t k a x r L : Nat) (H : Nat → Nat) (σ : HS) (Q : Option AV → HS → Prop) (hd : 1 ≤ d) (ht : t < 8) (hk : k < 3) (ha : a < 61) (hx : x ≤ 100000) (hr : σ.1 3 t 0 = nI r) (hr2 : r ≤ 100000) (hH : ∀ k, k < 3 → σ.1 63 t k = nI (H k)) (hs : H 0 + H 1 + H 2 ≤ r) (hL : σ.1 65 (3 * t + k) a = nI L)
    (h : Q (some (vI (nI (min x (r - (H 0 + H 1 + H 2)))))) (up (up σ 65 (3 * t + k) a (nI (L + min x (r - (H 0 + H 1 + H 2))))) 63 t k (nI (H k + min x (r - (H 0 + H 1 + H 2)))))) : MT d mX9_store [vR 3 t, vI (nI k), vI (nI a), vI (nI x)] σ Q := by
  have e1 : σ.1 3 t 0 - σ.1 63 t 0 - σ.1 63 t 1 - σ.1 63 t 2 = nI (r - (H 0 + H 1 + H 2)) := by
    rw [hr, hH 0 (by omega), hH 1 (by omega), hH 2 (by omega), pk_sub (by omega), pk_sub (by omega), pk_sub (by omega)]
    congr 1
    omega
  have vk : vp_in (nI k) 3 := vp_in_nI hk (by omega)
  have va : vp_in (nI a) 61 := vp_in_nI ha (by omega)
  refine wX9_store d t _ _ _ σ Q hd ht ?_
  rintro _ rfl
  rw [e1, iMin_nI (by omega) (by omega), nI_clamp (by omega), nI_clamp (by omega)]
  refine ⟨vk, va, va, ?_⟩
  rintro _ rfl
  refine ⟨vk, vk, ?_⟩
  rintro _ rfl
  rw [up_ne (show (63 : Nat) ≠ 65 by decide), hH k hk, hL, nI_add, nI_add]
  exact h
theorem removeOfAge_ok (d t k a w L H : Nat) (σ : HS) (Q : Option AV → HS → Prop) (hd : 1 ≤ d) (ht : t < 8) (hk : k < 3) (ha : a < 61) (hw : w < 2 ^ 31) (hL : σ.1 65 (3 * t + k) a = nI L) (hL2 : L < 2 ^ 31) (hH : σ.1 63 t k = nI H) (hLH : min w L ≤ H)
    (h : Q (some (vI (nI (min w L)))) (up (up σ 65 (3 * t + k) a (nI (L - min w L))) 63 t k (nI (H - min w L)))) : MT d mX9_removeOfAge [vR 3 t, vI (nI k), vI (nI a), vI (nI w)] σ Q := by
  have vk : vp_in (nI k) 3 := vp_in_nI hk (by omega)
  have va : vp_in (nI a) 61 := vp_in_nI ha (by omega)
  refine wX9_removeOfAge d t _ _ _ σ Q hd ht ⟨vk, va, ?_⟩
  rintro _ rfl
  rw [nI_clamp (by omega), nI_clamp (by omega), hL, iMin_nI hw hL2]
  refine ⟨vk, va, va, ?_⟩
  rintro _ rfl
  refine ⟨vk, vk, ?_⟩
  rintro _ rfl
  rw [up_ne (show (63 : Nat) ≠ 65 by decide), hH, pk_sub (by omega), pk_sub hLH]
  exact h
theorem removeOldest_loop (d t k w : Nat) (f : Nat → Nat) (σ : HS) (Q : Option AV → HS → Prop) (hd : 2 ≤ d) (ht : t < 8) (hk : k < 3) (hf2 : ∀ a, a < 61 → f a ≤ 100000) (hS : sm f 61 ≤ 100000) (hw : w ≤ sm f 61)
    (h : Q (some (vI (nI w))) (up (upB σ 65 (3 * t + k) 0 61 (fun a => nI (tkF f w a))) 63 t k (nI (sm f 61 - w)))) :
    ∀ m : Nat, m ≤ 61 → atX9_removeOldest_18 d Q (up (upB σ 65 (3 * t + k) 0 61 (fun s => if m ≤ s then nI (tkF f w s) else nI (f s))) 63 t k (nI (sm f 61 - (w - (w - (sm f 61 - sm f m)))))) t (nI k) (nI (w - (sm f 61 - sm f m))) (nI (w - (w - (sm f 61 - sm f m)))) (nI m - 1) := by
  have fin : ∀ m, m ≤ 61 → w - (sm f 61 - sm f m) = 0 → Q (some (vI (nI (w - (w - (sm f 61 - sm f m)))))) (up (upB σ 65 (3 * t + k) 0 61 (fun s => if m ≤ s then nI (tkF f w s) else nI (f s))) 63 t k (nI (sm f 61 - (w - (w - (sm f 61 - sm f m)))))) := by
    intro m hm h0
    rw [h0, Nat.sub_zero]
    have e2 : upB σ 65 (3 * t + k) 0 61 (fun s => if m ≤ s then nI (tkF f w s) else nI (f s)) = upB σ 65 (3 * t + k) 0 61 (fun a => nI (tkF f w a)) := by
      refine upB_cong (fun j hj => ?_)
      by_cases z : m ≤ j
      · rw [if_pos z]
      · rw [if_neg z]
        have h1 := sm_mono f (m := j + 1) (n := m) (by omega)
        congr 1
        unfold tkF
        omega
    rw [e2]
    exact h
  intro m
  induction m with
  | zero =>
    intro _
    refine wX9_removeOldest_18 d Q _ t _ _ _ _ (by omega) ht ⟨fun _ => fin 0 (by omega) (by have : sm f 0 = 0 := rfl; omega), fun q => absurd (by decide) q⟩
  | succ m ih =>
    intro hm
    have h1 := sm_mono f (m := m + 1) (n := 61) hm
    have h2 := sm_succ f m
    have hfm := hf2 m (by omega)
    have e0 : nI (m + 1) - 1 = nI m := nI_pred m
    rw [e0]
    refine wX9_removeOldest_18 d Q _ t _ _ _ _ (by omega) ht ⟨fun q => absurd q (nI_pos (by omega)), fun _ => ⟨fun q => ?_, fun q => ?_⟩⟩
    · have q2 := (nI_leI (a := w - (sm f 61 - sm f (m + 1))) (b := 0) (by omega) (by omega)).mp q
      exact fin (m + 1) hm (by omega)
    · have q2 : w - (sm f 61 - sm f (m + 1)) ≠ 0 := fun z => q (by rw [z]; decide)
      generalize hF : (fun s => if m + 1 ≤ s then nI (tkF f w s) else nI (f s)) = F
      have hFm : F m = nI (f m) := by rw [← hF]; exact if_neg (by omega)
      refine removeOfAge_ok (d - 1) t k m (w - (sm f 61 - sm f (m + 1))) (f m) (sm f 61 - (w - (w - (sm f 61 - sm f (m + 1))))) _ _ (by omega) ht hk (by omega) (by omega) ?_ (by omega) up_same (by omega) ⟨_, rfl, ?_⟩
      · rw [up_ne (show (65 : Nat) ≠ 63 by decide), upB_k, if_pos ⟨rfl, by omega, by omega⟩, Nat.sub_zero, hFm]
      · rintro _ rfl _ rfl _ rfl
        rw [up_comm (show (63 : Nat) ≠ 65 by decide), up_up, upB0_up (by omega), nI_add, pk_sub (by omega)]
        have e3 : nI m + (-1) = nI m - 1 := by rw [Int32.sub_eq_add_neg]
        rw [e3]
        have a1 : w - (sm f 61 - sm f (m + 1)) - min (w - (sm f 61 - sm f (m + 1))) (f m) = w - (sm f 61 - sm f m) := by omega
        have a2 : w - (w - (sm f 61 - sm f (m + 1))) + min (w - (sm f 61 - sm f (m + 1))) (f m) = w - (w - (sm f 61 - sm f m)) := by omega
        have a3 : sm f 61 - (w - (w - (sm f 61 - sm f (m + 1)))) - min (w - (sm f 61 - sm f (m + 1))) (f m) = sm f 61 - (w - (w - (sm f 61 - sm f m))) := by omega
        rw [a1, a2, a3]
        have e5 : upB σ 65 (3 * t + k) 0 61 (fun s => if s = m then nI (f m - min (w - (sm f 61 - sm f (m + 1))) (f m)) else F s) = upB σ 65 (3 * t + k) 0 61 (fun s => if m ≤ s then nI (tkF f w s) else nI (f s)) := by
          refine upB_cong (fun j hj => ?_)
          rw [← hF]
          dsimp only
          by_cases z : j = m
          · subst z
            rw [if_pos rfl, if_pos (Nat.le_refl _)]
            unfold tkF
            congr 1
            omega
          · rw [if_neg z]
            by_cases z2 : m + 1 ≤ j
            · rw [if_pos z2, if_pos (by omega)]
            · rw [if_neg z2, if_neg (by omega)]
        rw [e5]
        exact ih (by omega)
theorem removeOldest_ok (d t k w : Nat) (f : Nat → Nat) (σ : HS) (Q : Option AV → HS → Prop) (hd : 2 ≤ d) (ht : t < 8) (hk : k < 3) (hf : ∀ a, a < 61 → σ.1 65 (3 * t + k) a = nI (f a)) (hf2 : ∀ a, a < 61 → f a ≤ 100000) (hH : σ.1 63 t k = nI (sm f 61)) (hS : sm f 61 ≤ 100000) (hw : w < 2 ^ 31)
    (h : Q (some (vI (nI (min w (sm f 61))))) (up (upB σ 65 (3 * t + k) 0 61 (fun a => nI (tkF f w a))) 63 t k (nI (sm f 61 - min w (sm f 61))))) : MT d mX9_removeOldest [vR 3 t, vI (nI k), vI (nI w)] σ Q := by
  refine wX9_removeOldest d t _ _ σ Q (by omega) ht ⟨vp_in_nI hk (by omega), ?_⟩
  rintro _ rfl
  rw [nI_clamp (by omega), hH, iMin_nI hw (by omega)]
  have e1 : upB σ 65 (3 * t + k) 0 61 (fun a => nI (tkF f w a)) = upB σ 65 (3 * t + k) 0 61 (fun a => nI (tkF f (min w (sm f 61)) a)) := upB_cong (fun j hj => by rw [tkF_min f w j hj])
  rw [e1] at h
  have := removeOldest_loop d t k (min w (sm f 61)) f σ Q hd ht hk hf2 hS (by omega) h 61 (Nat.le_refl _)
  rw [Nat.sub_self, Nat.sub_zero, Nat.sub_self, Nat.sub_zero, upB_self (fun j hj => by rw [if_neg (by omega), Nat.zero_add, hf j hj]), up_self hH] at this
  exact this
