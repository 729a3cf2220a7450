def Lm (σ : HS) (j : Nat) : Nat := vN (σ.1 17 0 j)
def LOK (σ : HS) : Prop := ∀ j, j < 1464 → isN (σ.1 17 0 j) 100000
theorem LOK.eq {σ : HS} (h : LOK σ) {j : Nat} (hj : j < 1464) : σ.1 17 0 j = nI (Lm σ j) ∧ Lm σ j ≤ 100000 := isN_vN (h j hj) (by omega)
theorem lot_nI (t k a : Nat) : (nI t * 3 + nI k) * 61 + nI a = nI (61 * (3 * t + k) + a) := by
  rw [show (3 : Int32) = nI 3 from rfl, show (61 : Int32) = nI 61 from rfl, pk_mul, nI_add, pk_mul, nI_add]
  congr 1
  omega
theorem lot0_nI (t : Nat) : (nI t * 3 + 0) * 61 + 0 = nI (183 * t) := by
  have := lot_nI t 0 0
  rw [nI_0] at this
  rw [this]
  congr 1
  omega
theorem inStore_loop (d t : Nat) (σ : HS) (Q : Option AV → HS → Prop) (hd : 1 ≤ d) (ht : t < 8) (hL : LOK σ) (h : Q (some (vI (nI (sm (fun j => Lm σ (183 * t + j)) 183)))) σ) : ∀ m j : Nat, j + m = 183 → atX11_inStore_9 d Q σ (nI t) (nI (sm (fun j => Lm σ (183 * t + j)) j)) (nI (183 * t + j)) := by
  have eb : ((nI t + 1) * 3 + 0) * 61 + 0 = nI (183 * t + 183) := by rw [nI_1, lot0_nI]; congr 1
  intro m
  induction m with
  | zero =>
    intro j hj
    have e : j = 183 := by omega
    subst e
    refine wX11_inStore_9 d Q σ _ _ _ hd ⟨fun _ => h, fun q => absurd ?_ q⟩
    rw [eb]
    exact nI_le (Nat.le_refl _) (by omega)
  | succ m ih =>
    intro j hj
    refine wX11_inStore_9 d Q σ _ _ _ hd ⟨fun q => ?_, fun _ => ⟨vp_in_nI (by omega) (by omega), ?_⟩⟩
    · rw [eb] at q
      exact absurd q (nI_ge (by omega) (by omega))
    · rintro _ rfl _ rfl
      rw [nI_clamp (by omega), (hL.eq (j := 183 * t + j) (by omega)).1, nI_add, nI_1]
      exact ih (j + 1) (by omega)
theorem inStore_ok (d t : Nat) (σ : HS) (Q : Option AV → HS → Prop) (hd : 1 ≤ d) (ht : t < 8) (hL : LOK σ) (h : Q (some (vI (nI (sm (fun j => Lm σ (183 * t + j)) 183)))) σ) : MT d mX11_inStore [vR 0 0, vI (nI t)] σ Q := by
  refine wX11_inStore d _ σ Q hd ?_
  rintro _ rfl
  rw [lot0_nI]
  exact inStore_loop d t σ Q hd ht hL h 183 0 (by omega)
theorem space_ok (d t r : Nat) (σ : HS) (Q : Option AV → HS → Prop) (hd : 2 ≤ d) (ht : t < 8) (hL : LOK σ) (hr : σ.1 12 0 t = nI r) (hs : sm (fun j => Lm σ (183 * t + j)) 183 ≤ r) (h : Q (some (vI (nI (r - sm (fun j => Lm σ (183 * t + j)) 183)))) σ) : MT d mX11_space [vR 0 0, vI (nI t)] σ Q := by
  refine wX11_space d _ σ Q (by omega) ⟨vp_in_nI ht (by omega), inStore_ok (d - 1) t σ _ (by omega) ht hL ⟨_, rfl, ?_⟩⟩
  rw [nI_clamp (by omega), hr, pk_sub hs]
  exact h
theorem comeIn_ok (d t k a x r : Nat) (σ : HS) (Q : Option AV → HS → Prop) (hd : 3 ≤ d) (ht : t < 8) (hk : k < 3) (ha : a < 61) (hx : x ≤ 100000) (hL : LOK σ) (hr : σ.1 12 0 t = nI r) (hr2 : r ≤ 100000) (hs : sm (fun j => Lm σ (183 * t + j)) 183 ≤ r)
    (h : Q (some (vI (nI (min x (r - sm (fun j => Lm σ (183 * t + j)) 183))))) (up (up σ 17 0 (61 * (3 * t + k) + a) (nI (Lm σ (61 * (3 * t + k) + a) + min x (r - sm (fun j => Lm σ (183 * t + j)) 183)))) 18 0 2 (σ.1 18 0 2 + (nI x - nI (min x (r - sm (fun j => Lm σ (183 * t + j)) 183)))))) : MT d mX11_comeIn [vR 0 0, vI (nI t), vI (nI k), vI (nI a), vI (nI x)] σ Q := by
  have key : ∀ n : Nat, n = min x (r - sm (fun j => Lm σ (183 * t + j)) 183) → atX11_comeIn_20 d Q σ (nI t) (nI k) (nI a) (nI x) (nI n) := by
    intro n hn
    have hv : vp_in (nI (61 * (3 * t + k) + a)) 1464 := vp_in_nI (by omega) (by omega)
    refine wX11_comeIn_20 d Q σ _ _ _ _ _ (by omega) ?_
    rw [lot_nI]
    refine ⟨hv, hv, ?_⟩
    rintro _ rfl _ rfl
    rw [nI_clamp (by omega), (hL.eq (j := 61 * (3 * t + k) + a) (by omega)).1, nI_add, up_ne (show (18 : Nat) ≠ 17 by decide)]
    rw [hn]
    exact h
  refine wX11_comeIn d _ _ _ _ σ Q (by omega) (space_ok (d - 1) t r σ _ (by omega) ht hL hr hs ⟨_, rfl, fun q => ?_, fun q => ?_⟩)
  · have := (nI_leI (by omega) (by omega)).mp q
    exact space_ok (d - 1) t r σ _ (by omega) ht hL hr hs ⟨_, rfl, key _ (by omega)⟩
  · have := Nat.lt_of_not_le (fun z => q (nI_le (a := r - sm (fun j => Lm σ (183 * t + j)) 183) (b := x) z (by omega)))
    exact key x (by omega)
/-- what is left of a lot when w measures are taken, oldest first -/
def tkF (f : Nat → Nat) (w a : Nat) : Nat := f a - (w - (sm f 61 - sm f (a + 1)))
theorem sm_mono (f : Nat → Nat) : ∀ {m n : Nat}, m ≤ n → sm f m ≤ sm f n
  | m, 0, h => by rw [Nat.le_zero.mp h]; exact Nat.le_refl _
  | m, n + 1, h => by
    by_cases e : m = n + 1
    · rw [e]; exact Nat.le_refl _
    · have := sm_mono f (m := m) (n := n) (by omega)
      rw [sm_succ]
      omega
theorem tkF_sum (f : Nat → Nat) (w : Nat) : ∀ m, m ≤ 61 → sm (tkF f w) m = sm f m - (w - (sm f 61 - sm f m))
  | 0, _ => by simp [sm]
  | m + 1, h => by
    have ih := tkF_sum f w m (by omega)
    have h1 := sm_mono f (m := m + 1) (n := 61) h
    have h2 := sm_succ f m
    rw [sm_succ, ih, tkF]
    omega
theorem tkF_total (f : Nat → Nat) (w : Nat) : sm (tkF f w) 61 = sm f 61 - min w (sm f 61) := by
  rw [tkF_sum f w 61 (Nat.le_refl _)]
  omega
theorem tkF_min (f : Nat → Nat) (w a : Nat) (ha : a < 61) : tkF f (min w (sm f 61)) a = tkF f w a := by
  have h1 := sm_mono f (m := a + 1) (n := 61) (by omega)
  have h2 := sm_succ f a
  unfold tkF
  omega
theorem tkF_le (f : Nat → Nat) (w a : Nat) : tkF f w a ≤ f a := by
  unfold tkF
  omega
theorem goOut_loop (d t k w : Nat) (σ : HS) (Q : Option AV → HS → Prop) (hd : 1 ≤ d) (ht : t < 8) (hk : k < 3) (hw : w ≤ 1000000) (hL : LOK σ) (f : Nat → Nat) (hf : ∀ a, a < 61 → f a = Lm σ (61 * (3 * t + k) + a))
    (h : Q (some (vI (nI (min w (sm f 61))))) (upB σ 17 0 (61 * (3 * t + k)) 61 (fun a => nI (tkF f w a)))) :
    ∀ m : Nat, m ≤ 61 → atX11_goOut_7 d Q (upB σ 17 0 (61 * (3 * t + k)) 61 (fun s => if m ≤ s then nI (tkF f w s) else nI (f s))) (nI t) (nI k) (nI w) (nI (w - (sm f 61 - sm f m))) (nI m - 1) := by
  intro m
  induction m with
  | zero =>
    intro _
    refine wX11_goOut_7 d Q _ _ _ _ _ _ hd ⟨fun _ => ?_, fun q => absurd (by decide) q⟩
    rw [pk_sub (by omega)]
    have e1 : w - (w - (sm f 61 - sm f 0)) = min w (sm f 61) := by simp only [sm]; omega
    rw [e1]
    have e2 : upB σ 17 0 (61 * (3 * t + k)) 61 (fun s => if 0 ≤ s then nI (tkF f w s) else nI (f s)) = upB σ 17 0 (61 * (3 * t + k)) 61 (fun a => nI (tkF f w a)) := upB_cong (fun j _ => if_pos (Nat.zero_le _))
    rw [e2]
    exact h
  | succ m ih =>
    intro hm
    have hfm : f m ≤ 100000 := by rw [hf m (by omega)]; exact (hL.eq (j := 61 * (3 * t + k) + m) (by omega)).2
    have h1 := sm_mono f (m := m + 1) (n := 61) hm
    have h1' : sm f m + f m ≤ sm f 61 := by rw [← sm_succ]; exact h1
    rw [nI_pred]
    have hv : vp_in (nI (61 * (3 * t + k) + m)) 1464 := vp_in_nI (by omega) (by omega)
    have erd : (upB σ 17 0 (61 * (3 * t + k)) 61 (fun s => if m + 1 ≤ s then nI (tkF f w s) else nI (f s))).1 17 0 (nI (61 * (3 * t + k) + m)).toNatClampNeg = nI (f m) := by
      rw [nI_clamp (by omega), upB_k, if_pos ⟨rfl, by omega, by omega⟩, Nat.add_sub_cancel_left, if_neg (by omega)]
    have key : ∀ n : Nat, n = min (w - (sm f 61 - sm f (m + 1))) (f m) → atX11_goOut_45 d Q (upB σ 17 0 (61 * (3 * t + k)) 61 (fun s => if m + 1 ≤ s then nI (tkF f w s) else nI (f s))) (nI t) (nI k) (nI w) (nI (w - (sm f 61 - sm f (m + 1)))) (nI m) (nI (61 * (3 * t + k) + m)) (nI n) := by
      intro n hn
      refine wX11_goOut_45 d Q _ _ _ _ _ _ _ _ ⟨hv, hv, ?_⟩
      rintro _ rfl _ rfl _ rfl
      rw [erd, nI_clamp (by omega), pk_sub (by omega), pk_sub (by omega), upB_up (by omega)]
      have e3 : nI m + (-1) = nI m - 1 := by
        rw [Int32.sub_eq_add_neg]
      rw [e3]
      have e4 : w - (sm f 61 - sm f (m + 1)) - n = w - (sm f 61 - sm f m) := by
        have h2 := sm_succ f m
        omega
      rw [e4]
      have e5 : upB σ 17 0 (61 * (3 * t + k)) 61 (fun s => if s = m then nI (f m - n) else (if m + 1 ≤ s then nI (tkF f w s) else nI (f s))) = upB σ 17 0 (61 * (3 * t + k)) 61 (fun s => if m ≤ s then nI (tkF f w s) else nI (f s)) := by
        refine upB_cong (fun j hj => ?_)
        by_cases z : j = m
        · subst z
          rw [if_pos rfl, if_pos (Nat.le_refl _)]
          unfold tkF
          congr 1
          omega
        · rw [if_neg z]
          by_cases z2 : m + 1 ≤ j
          · rw [if_pos z2, if_pos (by omega)]
          · rw [if_neg z2, if_neg (by omega)]
      rw [e5]
      exact ih (by omega)
    refine wX11_goOut_7 d Q _ _ _ _ _ _ hd ⟨fun q => absurd q (nI_pos (by omega)), fun _ => ?_⟩
    rintro _ rfl
    rw [lot_nI]
    refine ⟨hv, ?_⟩
    rw [erd]
    refine ⟨fun q => ⟨hv, key _ ?_⟩, fun q => key _ ?_⟩
    · have := (nI_leI (by omega) (by omega)).mp q
      omega
    · have := Nat.lt_of_not_le (fun z => q (nI_le (a := f m) (b := w - (sm f 61 - sm f (m + 1))) z (by omega)))
      omega
theorem goOut_ok (d t k w : Nat) (σ : HS) (Q : Option AV → HS → Prop) (hd : 1 ≤ d) (ht : t < 8) (hk : k < 3) (hw : w ≤ 1000000) (hL : LOK σ) (f : Nat → Nat) (hf : ∀ a, a < 61 → f a = Lm σ (61 * (3 * t + k) + a))
    (h : Q (some (vI (nI (min w (sm f 61))))) (upB σ 17 0 (61 * (3 * t + k)) 61 (fun a => nI (tkF f w a)))) : MT d mX11_goOut [vR 0 0, vI (nI t), vI (nI k), vI (nI w)] σ Q := by
  refine wX11_goOut d _ _ _ σ Q ?_
  have := goOut_loop d t k w σ Q hd ht hk hw hL f hf h 61 (Nat.le_refl _)
  rw [Nat.sub_self, Nat.sub_zero, upB_self (fun j hj => by rw [if_neg (by omega), hf j hj, (hL.eq (j := 61 * (3 * t + k) + j) (by omega)).1])] at this
  exact this
theorem stockOf_loop (d t k : Nat) (σ : HS) (Q : Option AV → HS → Prop) (hd : 1 ≤ d) (ht : t < 8) (hk : k < 3) (hL : LOK σ) (h : Q (some (vI (nI (sm (fun a => Lm σ (61 * (3 * t + k) + a)) 61)))) σ) : ∀ m j : Nat, j + m = 61 → atX11_stockOf_5 d Q σ (nI t) (nI k) (nI (sm (fun a => Lm σ (61 * (3 * t + k) + a)) j)) (nI j) := by
  intro m
  induction m with
  | zero =>
    intro j hj
    have e : j = 61 := by omega
    subst e
    exact wX11_stockOf_5 d Q σ _ _ _ _ hd ⟨fun _ => h, fun q => absurd (nI_le (a := 61) (b := 61) (by omega) (by omega)) q⟩
  | succ m ih =>
    intro j hj
    refine wX11_stockOf_5 d Q σ _ _ _ _ hd ⟨fun q => absurd q (nI_ge (a := j) (b := 61) (by omega) (by omega)), fun _ => ?_⟩
    rw [lot_nI]
    refine ⟨vp_in_nI (by omega) (by omega), ?_⟩
    rintro _ rfl _ rfl
    rw [nI_clamp (by omega), (hL.eq (j := 61 * (3 * t + k) + j) (by omega)).1, nI_add, nI_1]
    exact ih (j + 1) (by omega)
theorem stockOf_ok (d t k : Nat) (σ : HS) (Q : Option AV → HS → Prop) (hd : 1 ≤ d) (ht : t < 8) (hk : k < 3) (hL : LOK σ) (h : Q (some (vI (nI (sm (fun a => Lm σ (61 * (3 * t + k) + a)) 61)))) σ) : MT d mX11_stockOf [vR 0 0, vI (nI t), vI (nI k)] σ Q :=
  wX11_stockOf d _ _ σ Q (stockOf_loop d t k σ Q hd ht hk hL h 61 0 (by omega))
