theorem tot_split (g : Nat → Nat) (t : Nat) : sm (fun j => g (183 * t + j)) 183 = sm (fun a => g (61 * (3 * t + 0) + a)) 61 + sm (fun a => g (61 * (3 * t + 1) + a)) 61 + sm (fun a => g (61 * (3 * t + 2) + a)) 61 := by
  have h1 := sm_split (fun j => g (183 * t + j)) 61 122
  have h2 := sm_split (fun j => g (183 * t + (61 + j))) 61 61
  have c0 : sm (fun j => g (183 * t + j)) 61 = sm (fun a => g (61 * (3 * t + 0) + a)) 61 := sm_cong (fun a _ => by congr 1; omega)
  have c1 : sm (fun j => g (183 * t + (61 + j))) 61 = sm (fun a => g (61 * (3 * t + 1) + a)) 61 := sm_cong (fun a _ => by congr 1; omega)
  have c2 : sm (fun j => g (183 * t + (61 + (61 + j)))) 61 = sm (fun a => g (61 * (3 * t + 2) + a)) 61 := sm_cong (fun a _ => by congr 1; omega)
  have e1 : sm (fun j => g (183 * t + j)) 183 = sm (fun j => g (183 * t + j)) (61 + 122) := rfl
  have e2 : sm (fun j => g (183 * t + (61 + j))) 122 = sm (fun j => g (183 * t + (61 + j))) (61 + 61) := rfl
  rw [e1, h1, e2, h2, c0, c1, c2]
  omega
theorem I6.row {σ : HS} (h : I6 σ) {r a : Nat} (hr : r < 24) (ha : a < 61) : σ.1 65 r a = nI (Lm σ (61 * r + a)) ∧ Lm σ (61 * r + a) ≤ 100000 := by
  have := LOK.eq (σ := σ) h.1 (j := 61 * r + a) (by omega)
  rw [h.2.1 r a hr ha]
  exact this
theorem I6.held {σ : HS} (h : I6 σ) {t k : Nat} (ht : t < 8) (hk : k < 3) : σ.1 63 t k = nI (sm (fun a => Lm σ (61 * (3 * t + k) + a)) 61) := h.2.2.1 t k ht hk
theorem I6.tot {σ : HS} (h : I6 σ) {t : Nat} (ht : t < 8) : sm (fun j => Lm σ (183 * t + j)) 183 ≤ vN (σ.1 12 0 t) := h.2.2.2 t ht
theorem I6_block {σ σ2 : HS} {t k : Nat} (f2 : Nat → Nat) (h : I6 σ) (ht : t < 8) (hk : k < 3)
    (a1 : ∀ j, j < 1464 → σ2.1 17 0 j = if 61 * (3 * t + k) ≤ j ∧ j < 61 * (3 * t + k) + 61 then nI (f2 (j - 61 * (3 * t + k))) else σ.1 17 0 j)
    (a2 : ∀ r a, r < 24 → a < 61 → σ2.1 65 r a = if r = 3 * t + k then nI (f2 a) else σ.1 65 r a)
    (a3 : ∀ t' k', t' < 8 → k' < 3 → σ2.1 63 t' k' = if t' = t ∧ k' = k then nI (sm f2 61) else σ.1 63 t' k')
    (a4 : ∀ t', t' < 8 → σ2.1 12 0 t' = σ.1 12 0 t') (hb : ∀ a, a < 61 → f2 a ≤ 100000)
    (hs : sm f2 61 + sm (fun j => Lm σ (183 * t + j)) 183 ≤ vN (σ.1 12 0 t) + sm (fun a => Lm σ (61 * (3 * t + k) + a)) 61) : I6 σ2 := by
  have hL2 : ∀ j, j < 1464 → Lm σ2 j = if 61 * (3 * t + k) ≤ j ∧ j < 61 * (3 * t + k) + 61 then f2 (j - 61 * (3 * t + k)) else Lm σ j := by
    intro j hj
    show vN (σ2.1 17 0 j) = _
    rw [a1 j hj]
    by_cases e : 61 * (3 * t + k) ≤ j ∧ j < 61 * (3 * t + k) + 61
    · have := hb (j - 61 * (3 * t + k)) (by omega)
      rw [if_pos e, if_pos e, vN_nI (by omega)]
    · rw [if_neg e, if_neg e]; rfl
  have same : ∀ t' k', t' < 8 → k' < 3 → ¬ (t' = t ∧ k' = k) → sm (fun a => Lm σ2 (61 * (3 * t' + k') + a)) 61 = sm (fun a => Lm σ (61 * (3 * t' + k') + a)) 61 := by
    intro t' k' ht' hk' hne
    refine sm_cong (fun a ha => ?_)
    rw [hL2 _ (by omega), if_neg (by omega)]
  have this_ : sm (fun a => Lm σ2 (61 * (3 * t + k) + a)) 61 = sm f2 61 := by
    refine sm_cong (fun a ha => ?_)
    rw [hL2 _ (by omega), if_pos (by omega)]
    congr 1
    omega
  refine ⟨fun j hj => ?_, fun r a hr ha => ?_, fun t' k' ht' hk' => ?_, fun t' ht' => ?_⟩
  · rw [a1 j hj]
    by_cases e : 61 * (3 * t + k) ≤ j ∧ j < 61 * (3 * t + k) + 61
    · rw [if_pos e]; exact ⟨_, hb _ (by omega), rfl⟩
    · rw [if_neg e]; exact h.1 j hj
  · rw [a2 r a hr ha, a1 _ (by omega)]
    by_cases e : r = 3 * t + k
    · rw [if_pos e, if_pos (by omega)]
      congr 2
      omega
    · rw [if_neg e, if_neg (by omega)]
      exact h.2.1 r a hr ha
  · rw [a3 t' k' ht' hk']
    by_cases e : t' = t ∧ k' = k
    · obtain ⟨rfl, rfl⟩ := e
      rw [if_pos ⟨rfl, rfl⟩]
      exact congrArg nI this_.symm
    · rw [if_neg e, h.held ht' hk']
      exact congrArg nI (same t' k' ht' hk' e).symm
  · rw [a4 t' ht']
    show sm (fun j => Lm σ2 (183 * t' + j)) 183 ≤ _
    by_cases e : t' = t
    · subst e
      have s1 := tot_split (Lm σ2) t'
      have s2 := tot_split (Lm σ) t'
      rcases (show k = 0 ∨ k = 1 ∨ k = 2 by omega) with rfl | rfl | rfl
      · have b1 := same t' 1 ht (by omega) (by omega)
        have b2 := same t' 2 ht (by omega) (by omega)
        omega
      · have b1 := same t' 0 ht (by omega) (by omega)
        have b2 := same t' 2 ht (by omega) (by omega)
        omega
      · have b1 := same t' 0 ht (by omega) (by omega)
        have b2 := same t' 1 ht (by omega) (by omega)
        omega
    · have s1 := tot_split (Lm σ2) t'
      have s2 := tot_split (Lm σ) t'
      have b0 := same t' 0 ht' (by omega) (by omega)
      have b1 := same t' 1 ht' (by omega) (by omega)
      have b2 := same t' 2 ht' (by omega) (by omega)
      have := h.tot ht'
      omega
theorem kd_iff {x : Int32} : (0 ≤ x ∧ x ≤ 2) ↔ ∃ k, k < 3 ∧ x = nI k := by
  constructor
  · intro h
    obtain ⟨t, -, h2, rfl⟩ := (rg_iff (a := 0) (b := 2) (by omega) (by omega)).mp h
    exact ⟨t, by omega, rfl⟩
  · rintro ⟨k, hk, rfl⟩
    exact (rg_iff (a := 0) (b := 2) (by omega) (by omega)).mpr ⟨k, by omega, by omega, rfl⟩
theorem kd_iff2 {x : Int32} : (0 ≤ x ∧ x < 3) ↔ ∃ k, k < 3 ∧ x = nI k := tw_iff2 (n := 3) (by omega)
theorem ag_iff {x : Int32} : (0 ≤ x ∧ x ≤ 60) ↔ ∃ k, k < 61 ∧ x = nI k := by
  constructor
  · intro h
    obtain ⟨t, -, h2, rfl⟩ := (rg_iff (a := 0) (b := 60) (by omega) (by omega)).mp h
    exact ⟨t, by omega, rfl⟩
  · rintro ⟨k, hk, rfl⟩
    exact (rg_iff (a := 0) (b := 60) (by omega) (by omega)).mpr ⟨k, by omega, by omega, rfl⟩
theorem st_put (a0 a1 a2 a3 : Int32) : Step mX10_put mX11_put [vI a0, vI a1, vI a2, vI a3] := by
  intro σ hI
  have hI0 := hI
  obtain ⟨h1, h2, h3, h4, h5, h6, h7, h8, h9, h10, h11, h12, h13, h14⟩ := hI
  obtain ⟨n, hn, e1, e2, e3⟩ := id h1
  have hno : PostS (-1) (some (vI (-1))) σ := ⟨rfl, hI0⟩
  have c1 : (0 ≤ a0 ∧ a0 ≤ σ.1 2 0 3 - 1) ↔ ∃ t, t < n ∧ a0 = nI t := by rw [e2]; exact tw_iff hn
  have c2 : (0 ≤ a0 ∧ a0 < σ.1 0 0 7) ↔ ∃ t, t < n ∧ a0 = nI t := by rw [e1]; exact tw_iff2 (by omega)
  by_cases A : (0 ≤ a0 ∧ a0 ≤ σ.1 2 0 3 - 1) ∧ (0 ≤ a1 ∧ a1 ≤ 2) ∧ (0 ≤ a2 ∧ a2 ≤ 60) ∧ (1 ≤ a3 ∧ a3 ≤ 100000)
  · obtain ⟨A0, A1, A2, A3⟩ := A
    refine wX10_put 60 a0 a1 a2 a3 σ _ (by decide) ⟨fun q => absurd A0 q, fun _ => ⟨fun q => absurd A1 q, fun _ => ⟨fun q => absurd A2 q, fun _ => ⟨fun _ => ?_, fun q => absurd A3 q⟩⟩⟩⟩
    obtain ⟨t, ht, rfl⟩ := c1.mp A0
    obtain ⟨k, hk, rfl⟩ := kd_iff.mp A1
    obtain ⟨a, ha, rfl⟩ := ag_iff.mp A2
    obtain ⟨x, hx1, hx2, rfl⟩ := (rg_iff (a := 1) (b := 100000) (by omega) (by omega)).mp A3
    have ht8 : t < 8 := by omega
    refine ⟨vp_in_nI ht8 (by omega), ?_⟩
    rw [nI_clamp (by omega)]
    obtain ⟨er, er2⟩ := isN_vN (h3 t ht8).1 (by omega)
    have hsp := tot_split (Lm σ) t
    have htot := h6.tot ht8
    obtain ⟨eL, hL⟩ := h6.row (r := 3 * t + k) (a := a) (by omega) ha
    refine store_ok 59 t k a x (vN (σ.1 12 0 t)) (Lm σ (61 * (3 * t + k) + a)) (fun k => sm (fun a => Lm σ (61 * (3 * t + k) + a)) 61) σ _ (by decide) ht8 hk ha (by omega) (by rw [(h3 t ht8).2.2.2.1]; exact er) er2 (fun k hk => h6.held ht8 hk) (by omega) eL ⟨_, rfl, ?_⟩
    rintro _ rfl
    have en : vN (σ.1 12 0 t) - ((fun k => sm (fun a => Lm σ (61 * (3 * t + k) + a)) 61) 0 + (fun k => sm (fun a => Lm σ (61 * (3 * t + k) + a)) 61) 1 + (fun k => sm (fun a => Lm σ (61 * (3 * t + k) + a)) 61) 2) = vN (σ.1 12 0 t) - sm (fun j => Lm σ (183 * t + j)) 183 := by dsimp only; omega
    rw [en]
    generalize hnn : min x (vN (σ.1 12 0 t) - sm (fun j => Lm σ (183 * t + j)) 183) = nn
    generalize hσ1 : up (up (up σ 65 (3 * t + k) a _) 63 t k _) 4 0 2 _ = σ1
    have eLm : Lm σ1 = Lm σ := funext fun j => by rw [← hσ1]; simp [Lm, up_ne]
    have cM : 0 ≤ nI t ∧ nI t < σ1.1 0 0 7 := by
      rw [← hσ1]
      simp only [up_ne (show (0 : Nat) ≠ 4 by decide), up_ne (show (0 : Nat) ≠ 63 by decide), up_ne (show (0 : Nat) ≠ 65 by decide), e1]
      exact ⟨nI_pos' (by omega), nI_lt ht (by omega)⟩
    refine step_of (wX11_put 60 _ _ _ _ σ1 _ (by decide) ⟨fun q => absurd cM q, fun _ => ⟨fun q => absurd (kd_iff2.mpr ⟨k, hk, rfl⟩) q, fun _ => ⟨fun q => absurd q (nI_pos (by omega)), fun _ => ⟨fun q => absurd q (nI_ge (a := a) (b := 61) (by omega) (by omega)), fun _ => ⟨fun _ => ?_, fun q => absurd A3 q⟩⟩⟩⟩⟩)
    have hroom : σ1.1 12 0 t = nI (vN (σ.1 12 0 t)) := by rw [← hσ1]; simpa [up_ne] using er
    have hLOK : LOK σ1 := fun j hj => by rw [← hσ1]; simpa [up_ne] using h6.1 j hj
    refine comeIn_ok 59 t k a x (vN (σ.1 12 0 t)) σ1 _ (by decide) ht8 hk ha (by omega) hLOK hroom er2 (by rw [eLm]; exact htot) ⟨_, rfl, ?_, ?_⟩
    · rw [eLm, hnn]
    · rw [eLm, hnn, ← hσ1]
      refine ⟨by simpa [I1, up_ne, up_k] using h1, by simpa [I2, up_ne, up_k] using h2, by simpa [I3, up_ne, up_k] using h3, by simpa [I4, up_ne, up_k] using h4, by simpa [I5, up_ne, up_k] using h5, ?_, ?_, by simpa [I8, up_ne, up_k] using h8, by simpa [I9, up_ne, up_k] using h9, by simpa [I10, up_ne, up_k] using h10, by simpa [I11, up_ne, up_k] using h11, by simpa [I12, up_ne, up_k] using h12, by simpa [I13, up_ne, up_k] using h13, by simpa [I14, up_ne, up_k] using h14⟩
      · refine I6_block (fun s => if s = a then Lm σ (61 * (3 * t + k) + a) + nn else Lm σ (61 * (3 * t + k) + s)) h6 ht8 hk (fun j hj => ?_) (fun r s hr hs => ?_) (fun t' k' ht' hk' => ?_) (fun t' ht' => by simp [up_ne]) (fun s hs => ?_) ?_
        · rw [up_ne (by decide), up_k]
          by_cases z : j = 61 * (3 * t + k) + a
          · subst z
            rw [if_pos ⟨rfl, rfl⟩, if_pos (by omega), if_pos (by omega)]
          · rw [if_neg (fun w => z w.2)]
            simp only [up_ne (show (17 : Nat) ≠ 4 by decide), up_ne (show (17 : Nat) ≠ 63 by decide), up_ne (show (17 : Nat) ≠ 65 by decide)]
            by_cases z2 : 61 * (3 * t + k) ≤ j ∧ j < 61 * (3 * t + k) + 61
            · rw [if_pos z2, if_neg (by omega), Nat.add_sub_cancel' z2.1]
              exact (LOK.eq (σ := σ) h6.1 hj).1
            · rw [if_neg z2]
        · simp only [up_ne (show (65 : Nat) ≠ 18 by decide), up_ne (show (65 : Nat) ≠ 17 by decide), up_ne (show (65 : Nat) ≠ 4 by decide), up_ne (show (65 : Nat) ≠ 63 by decide), up_k]
          by_cases z : r = 3 * t + k
          · subst z
            rw [if_pos rfl]
            by_cases z2 : s = a
            · subst z2
              rw [if_pos ⟨rfl, rfl⟩, if_pos rfl]
            · rw [if_neg (fun w => z2 w.2), if_neg z2]
              exact (h6.row hr hs).1
          · rw [if_neg z, if_neg (fun w => z w.1)]
        · simp only [up_ne (show (63 : Nat) ≠ 18 by decide), up_ne (show (63 : Nat) ≠ 17 by decide), up_ne (show (63 : Nat) ≠ 4 by decide), up_k]
          by_cases z : t' = t ∧ k' = k
          · rw [if_pos z, if_pos z]
            congr 1
            have := sm_upd (fun s => Lm σ (61 * (3 * t + k) + s)) (Lm σ (61 * (3 * t + k) + a) + nn) (i := a) (n := 61) ha
            try dsimp only at this ⊢
            omega
          · rw [if_neg z, if_neg z, up_ne (by decide)]
        · try dsimp only
          by_cases z : s = a
          · rw [if_pos z]
            have q1 := sm_part (fun a => Lm σ (61 * (3 * t + k) + a)) (i := a) (n := 61) ha
            try dsimp only at q1
            rcases (show k = 0 ∨ k = 1 ∨ k = 2 by omega) with rfl | rfl | rfl <;> omega
          · rw [if_neg z]
            exact (h6.row (r := 3 * t + k) (by omega) hs).2
        · have := sm_upd (fun s => Lm σ (61 * (3 * t + k) + s)) (Lm σ (61 * (3 * t + k) + a) + nn) (i := a) (n := 61) ha
          try dsimp only at this ⊢
          omega
      · obtain ⟨g1, g2, g3, g4⟩ := h7
        refine ⟨by simpa [up_ne, up_k] using g1, by simpa [up_ne, up_k] using g2, ?_, by simpa [up_ne, up_k] using g4⟩
        simp [up_ne, up_k, g3]
  · have hM : MT 60 mX11_put [vR 0 0, vI a0, vI a1, vI a2, vI a3] σ (PostS (-1)) := by
      refine wX11_put 60 a0 a1 a2 a3 σ _ (by decide) ⟨fun _ => hno, fun q0 => ⟨fun _ => hno, fun q1 => ⟨fun _ => hno, fun q2 => ⟨fun _ => hno, fun q3 => ⟨fun q4 => ?_, fun _ => hno⟩⟩⟩⟩⟩
      refine absurd ⟨c1.mpr (c2.mp q0), kd_iff.mpr (kd_iff2.mp q1), ⟨Int32.not_lt.mp q2, ?_⟩, q4⟩ A
      clear A c1 c2 q0 q1 q2 q4 hno hI0 h1 h2 h3 h4 h5 h6 h7 h8 h9 h10 h11 h12 h13 h14 e1 e2 e3
      (simp only [Int32.le_iff_toInt_le, Int32.lt_iff_toInt_lt, ← Int32.toInt_inj, Int32.reduceToInt] at *; omega)
    refine wX10_put 60 a0 a1 a2 a3 σ _ (by decide) ⟨fun _ => step_of hM, fun q0 => ⟨fun _ => step_of hM, fun q1 => ⟨fun _ => step_of hM, fun q2 => ⟨fun q3 => absurd ⟨q0, q1, q2, q3⟩ A, fun _ => step_of hM⟩⟩⟩⟩
