/-- a block taken from, both sides: the invariant of the lots -/
theorem I6_take {σ σ2 : HS} {t k w : Nat} (h : I6 σ) (ht : t < 8) (hk : k < 3)
    (a1 : ∀ j, j < 1464 → σ2.1 17 0 j = if 61 * (3 * t + k) ≤ j ∧ j < 61 * (3 * t + k) + 61 then nI (tkF (fun a => Lm σ (61 * (3 * t + k) + a)) w (j - 61 * (3 * t + k))) else σ.1 17 0 j)
    (a2 : ∀ r a, r < 24 → a < 61 → σ2.1 65 r a = if r = 3 * t + k then nI (tkF (fun a => Lm σ (61 * (3 * t + k) + a)) w a) else σ.1 65 r a)
    (a3 : ∀ t' k', t' < 8 → k' < 3 → σ2.1 63 t' k' = if t' = t ∧ k' = k then nI (sm (fun a => Lm σ (61 * (3 * t + k) + a)) 61 - min w (sm (fun a => Lm σ (61 * (3 * t + k) + a)) 61)) else σ.1 63 t' k')
    (a4 : ∀ t', t' < 8 → σ2.1 12 0 t' = σ.1 12 0 t') : I6 σ2 := by
  refine I6_block (tkF (fun a => Lm σ (61 * (3 * t + k) + a)) w) h ht hk a1 a2 (fun t' k' ht' hk' => ?_) a4 (fun a ha => ?_) ?_
  · rw [a3 t' k' ht' hk', tkF_total]
  · exact Nat.le_trans (tkF_le _ _ _) (h.row (r := 3 * t + k) (by omega) ha).2
  · rw [tkF_total]
    have := h.tot ht
    omega
theorem S_le {σ : HS} {t k : Nat} (h3 : I3 σ) (h6 : I6 σ) (ht : t < 8) (hk : k < 3) : sm (fun a => Lm σ (61 * (3 * t + k) + a)) 61 ≤ 100000 := by
  have h1 := h6.tot ht
  have h2 := (isN_vN (h3 t ht).1 (by omega)).2
  have h4 := tot_split (Lm σ) t
  rcases (show k = 0 ∨ k = 1 ∨ k = 2 by omega) with rfl | rfl | rfl <;> omega
theorem st_take (a0 a1 a2 : Int32) : Step mX10_take mX11_take [vI a0, vI a1, vI a2] := by
  intro σ hI
  have hI0 := hI
  obtain ⟨h1, h2, h3, h4, h5, h6, h7, h8, h9, h10, h11, h12, h13, h14⟩ := hI
  obtain ⟨n, hn, e1, e2, e3⟩ := id h1
  have hno : PostS (-1) (some (vI (-1))) σ := ⟨rfl, hI0⟩
  have c1 : (0 ≤ a0 ∧ a0 ≤ σ.1 2 0 3 - 1) ↔ ∃ t, t < n ∧ a0 = nI t := by rw [e2]; exact tw_iff hn
  have c2 : (0 ≤ a0 ∧ a0 < σ.1 0 0 7) ↔ ∃ t, t < n ∧ a0 = nI t := by rw [e1]; exact tw_iff2 (by omega)
  by_cases A : (0 ≤ a0 ∧ a0 ≤ σ.1 2 0 3 - 1) ∧ (0 ≤ a1 ∧ a1 ≤ 2) ∧ (1 ≤ a2 ∧ a2 ≤ 100000)
  · obtain ⟨A0, A1, A3⟩ := A
    refine wX10_take 60 a0 a1 a2 σ _ (by decide) ⟨fun q => absurd A0 q, fun _ => ⟨fun q => absurd A1 q, fun _ => ⟨fun _ => ?_, fun q => absurd A3 q⟩⟩⟩
    obtain ⟨t, ht, rfl⟩ := c1.mp A0
    obtain ⟨k, hk, rfl⟩ := kd_iff.mp A1
    obtain ⟨x, hx1, hx2, rfl⟩ := (rg_iff (a := 1) (b := 100000) (by omega) (by omega)).mp A3
    have ht8 : t < 8 := by omega
    refine ⟨vp_in_nI ht8 (by omega), ?_⟩
    rw [nI_clamp (by omega)]
    refine removeOldest_ok 59 t k x (fun a => Lm σ (61 * (3 * t + k) + a)) σ _ (by decide) ht8 hk (fun a ha => (h6.row (r := 3 * t + k) (by omega) ha).1) (fun a ha => (h6.row (r := 3 * t + k) (by omega) ha).2) (h6.held ht8 hk) (S_le h3 h6 ht8 hk) (by omega) ⟨_, rfl, ?_⟩
    generalize hσ1 : up (upB σ 65 (3 * t + k) 0 61 _) 63 t k _ = σ1
    have cM : 0 ≤ nI t ∧ nI t < σ1.1 0 0 7 := by
      rw [← hσ1, up_ne (by decide), upB_ne (by decide), e1]
      exact ⟨nI_pos' (by omega), nI_lt ht (by omega)⟩
    have hLOK : LOK σ1 := fun j hj => by rw [← hσ1, up_ne (by decide), upB_ne (by decide)]; exact h6.1 j hj
    refine step_of (wX11_take 60 _ _ _ σ1 _ (by decide) ⟨fun q => absurd cM q, fun _ => ⟨fun q => absurd (kd_iff2.mpr ⟨k, hk, rfl⟩) q, fun _ => ⟨fun _ => ?_, fun q => absurd A3 q⟩⟩⟩)
    refine goOut_ok 59 t k x σ1 _ (by decide) ht8 hk (by omega) hLOK (fun a => Lm σ (61 * (3 * t + k) + a)) (fun a ha => by rw [← hσ1]; simp [Lm, up_ne, upB_ne]) ⟨_, rfl, rfl, ?_⟩
    rw [← hσ1]
    refine ⟨by simpa [I1, up_ne, up_k, upB_ne] using h1, by simpa [I2, up_ne, up_k, upB_ne] using h2, by simpa [I3, up_ne, up_k, upB_ne] using h3, by simpa [I4, up_ne, up_k, upB_ne] using h4, by simpa [I5, up_ne, up_k, upB_ne] using h5, ?_, by simpa [I7, up_ne, up_k, upB_ne] using h7, by simpa [I8, up_ne, up_k, upB_ne] using h8, by simpa [I9, up_ne, up_k, upB_ne] using h9, by simpa [I10, up_ne, up_k, upB_ne] using h10, by simpa [I11, up_ne, up_k, upB_ne] using h11, by simpa [I12, up_ne, up_k, upB_ne] using h12, by simpa [I13, up_ne, up_k, upB_ne] using h13, by simpa [I14, up_ne, up_k, upB_ne] using h14⟩
    refine I6_take (w := x) h6 ht8 hk (fun j hj => ?_) (fun r a hr ha => ?_) (fun t' k' ht' hk' => ?_) (fun t' ht' => by simp [up_ne, upB_ne])
    · rw [upB_k]
      by_cases z : 61 * (3 * t + k) ≤ j ∧ j < 61 * (3 * t + k) + 61
      · rw [if_pos ⟨rfl, z.1, z.2⟩, if_pos z]
      · rw [if_neg (fun w => z w.2), if_neg z, up_ne (by decide), upB_ne (by decide)]
    · rw [upB_ne (by decide), up_ne (by decide), upB_k]
      by_cases z : r = 3 * t + k
      · rw [if_pos ⟨z, by omega, by omega⟩, if_pos z, Nat.sub_zero]
      · rw [if_neg (fun w => z w.1), if_neg z]
    · rw [upB_ne (by decide), up_k, upB_ne (by decide)]
  · have hM : MT 60 mX11_take [vR 0 0, vI a0, vI a1, vI a2] σ (PostS (-1)) := by
      refine wX11_take 60 a0 a1 a2 σ _ (by decide) ⟨fun _ => hno, fun q0 => ⟨fun _ => hno, fun q1 => ⟨fun q4 => ?_, fun _ => hno⟩⟩⟩
      exact absurd ⟨c1.mpr (c2.mp q0), kd_iff.mpr (kd_iff2.mp q1), q4⟩ A
    refine wX10_take 60 a0 a1 a2 σ _ (by decide) ⟨fun _ => step_of hM, fun q0 => ⟨fun _ => step_of hM, fun q1 => ⟨fun q3 => absurd ⟨q0, q1, q3⟩ A, fun _ => step_of hM⟩⟩⟩
theorem st_stock (a0 a1 a2 : Int32) : Step mX10_stock mX11_stock [vI a0, vI a1, vI a2] := by
  intro σ hI
  have hI0 := hI
  obtain ⟨h1, h2, h3, h4, h5, h6, h7, h8, h9, h10, h11, h12, h13, h14⟩ := hI
  obtain ⟨n, hn, e1, e2, e3⟩ := id h1
  have hno : PostS (-1) (some (vI (-1))) σ := ⟨rfl, hI0⟩
  have c1 : (0 ≤ a0 ∧ a0 ≤ σ.1 2 0 3 - 1) ↔ ∃ t, t < n ∧ a0 = nI t := by rw [e2]; exact tw_iff hn
  have c2 : (0 ≤ a0 ∧ a0 < σ.1 0 0 7) ↔ ∃ t, t < n ∧ a0 = nI t := by rw [e1]; exact tw_iff2 (by omega)
  have no1 : ¬ (∃ t, t < n ∧ a0 = nI t) → MT 60 mX11_stock [vR 0 0, vI a0, vI a1, vI a2] σ (PostS (-1)) := fun z => wX11_stock 60 a0 a1 a2 σ _ (by decide) ⟨fun _ => hno, fun q => absurd (c2.mp q) z⟩
  have no2 : ¬ (∃ k, k < 3 ∧ a1 = nI k) → MT 60 mX11_stock [vR 0 0, vI a0, vI a1, vI a2] σ (PostS (-1)) := fun z => wX11_stock 60 a0 a1 a2 σ _ (by decide) ⟨fun _ => hno, fun _ => ⟨fun _ => hno, fun q => absurd (kd_iff2.mp q) z⟩⟩
  refine wX10_stock 60 a0 a1 a2 σ _ (by decide) ⟨fun q => step_of (no1 (fun z => q (c1.mpr z))), fun q => ⟨fun q1 => ?_, fun q1 => step_of (no2 (fun z => q1 (kd_iff.mpr z)))⟩⟩
  obtain ⟨t, ht, rfl⟩ := c1.mp q
  obtain ⟨k, hk, rfl⟩ := kd_iff.mp q1
  have ht8 : t < 8 := by omega
  have vt : vp_in (nI t) 8 := vp_in_nI ht8 (by omega)
  have vk : vp_in (nI k) 3 := vp_in_nI hk (by omega)
  have cM := c2.mpr ⟨t, ht, rfl⟩
  have cK := kd_iff2.mpr ⟨k, hk, rfl⟩
  refine ⟨fun q2 => ⟨fun q3 => step_of ?_, fun q3 => ?_⟩, fun q2 => ?_⟩
  · refine wX11_stock 60 _ _ a2 σ _ (by decide) ⟨fun _ => hno, fun _ => ⟨fun _ => hno, fun _ => ⟨fun _ => hno, fun q4 => ⟨fun q5 => ?_, fun _ => hno⟩⟩⟩⟩
    exfalso
    clear hno hI0 h1 h2 h3 h4 h5 h6 h7 h8 h9 h10 h11 h12 h13 h14 e1 e2 e3 c1 c2 no1 no2 cM cK vt vk q q1
    (simp only [Int32.le_iff_toInt_le, Int32.lt_iff_toInt_lt, ← Int32.toInt_inj, Int32.reduceToInt] at *; omega)
  · obtain ⟨a, ha, rfl⟩ := ag_iff.mp q3
    refine ⟨vt, vk, vp_in_nI ha (by omega), step_of (wX11_stock 60 _ _ _ σ _ (by decide) ⟨fun z => absurd cM z, fun _ => ⟨fun z => absurd cK z, fun _ => ⟨fun z => ?_, fun _ => ⟨fun _ => ⟨fun _ => ?_, fun z => absurd z q2⟩, fun z => absurd (nI_lt (a := a) (b := 61) (by omega) (by omega)) z⟩⟩⟩⟩)⟩
    · exfalso
      have : (0 : Int32) ≤ nI a := nI_pos' (by omega)
      clear hno hI0 h1 h2 h3 h4 h5 h6 h7 h8 h9 h10 h11 h12 h13 h14 e1 e2 e3 c1 c2 no1 no2 cM cK vt vk q q1
      (simp only [Int32.le_iff_toInt_le, Int32.lt_iff_toInt_lt, ← Int32.toInt_inj, Int32.reduceToInt] at *; omega)
    · rw [lot_nI]
      refine ⟨vp_in_nI (by omega) (by omega), ?_, hI0⟩
      rw [nI_clamp (by omega), nI_clamp (by omega), nI_clamp (by omega), nI_clamp (by omega), h6.2.1 (3 * t + k) a (by omega) ha]
  · subst q2
    refine ⟨vt, vk, step_of (wX11_stock 60 _ _ _ σ _ (by decide) ⟨fun z => absurd cM z, fun _ => ⟨fun z => absurd cK z, fun _ => ⟨fun z => absurd z (by decide), fun _ => ⟨fun _ => ⟨fun z => absurd rfl z, fun _ => ?_⟩, fun z => absurd (by decide) z⟩⟩⟩⟩)⟩
    refine stockOf_ok 59 t k σ _ (by decide) ht8 hk h6.1 ⟨_, rfl, ?_, hI0⟩
    rw [nI_clamp (by omega), nI_clamp (by omega), h6.held ht8 hk]
theorem st_of (a0 a1 : Int32) : Step mX10_of mX11_of [vI a0, vI a1] := by
  intro σ hI
  have hI0 := hI
  obtain ⟨h1, h2, h3, h4, h5, h6, h7, h8, h9, h10, h11, h12, h13, h14⟩ := hI
  obtain ⟨n, hn, e1, e2, e3⟩ := id h1
  have hno : PostS (-1) (some (vI (-1))) σ := ⟨rfl, hI0⟩
  have c1 : (0 ≤ a0 ∧ a0 ≤ σ.1 2 0 3 - 1) ↔ ∃ t, t < n ∧ a0 = nI t := by rw [e2]; exact tw_iff hn
  have c2 : (0 ≤ a0 ∧ a0 < σ.1 0 0 7) ↔ ∃ t, t < n ∧ a0 = nI t := by rw [e1]; exact tw_iff2 (by omega)
  refine wX10_of 60 a0 a1 σ _ (by decide) ⟨fun q => ?_, fun q => step_of (wX11_of 60 a0 a1 σ _ (by decide) ⟨fun z => absurd (c1.mpr (c2.mp z)) q, fun _ => hno⟩)⟩
  obtain ⟨t, ht, rfl⟩ := c1.mp q
  have ht8 : t < 8 := by omega
  have vt : vp_in (nI t) 8 := vp_in_nI ht8 (by omega)
  have cM := c2.mpr ⟨t, ht, rfl⟩
  obtain ⟨g1, g2, g3, g4, g5, g6⟩ := h3 t ht8
  obtain ⟨er, er2⟩ := isN_vN g1 (by omega)
  rw [nI_clamp (by omega)]
  refine ⟨vt, fun z => step_of ?_, fun z => step_of ?_, fun z => step_of ?_, fun z => step_of ?_, fun z => ⟨fun z2 => step_of ?_, fun z2 => ⟨vt, ?_⟩⟩⟩
  · subst z
    exact wX11_of 60 _ 0 σ _ (by decide) ⟨fun _ => ⟨fun _ => ⟨vt, by rw [nI_clamp (by omega), g4], hI0⟩, fun z => absurd z (by decide), fun z => absurd z (by decide), fun z => absurd z (by decide), fun z => absurd rfl z.1⟩, fun z => absurd cM z⟩
  · subst z
    exact wX11_of 60 _ 1 σ _ (by decide) ⟨fun _ => ⟨fun z => absurd z (by decide), fun _ => ⟨vt, by rw [nI_clamp (by omega), g5], hI0⟩, fun z => absurd z (by decide), fun z => absurd z (by decide), fun z => absurd rfl z.2.1⟩, fun z => absurd cM z⟩
  · subst z
    exact wX11_of 60 _ 2 σ _ (by decide) ⟨fun _ => ⟨fun z => absurd z (by decide), fun z => absurd z (by decide), fun _ => ⟨vt, by rw [nI_clamp (by omega), g6], hI0⟩, fun z => absurd z (by decide), fun z => absurd rfl z.2.2.1⟩, fun z => absurd cM z⟩
  · subst z
    refine wX11_of 60 _ 3 σ _ (by decide) ⟨fun _ => ⟨fun z => absurd z (by decide), fun z => absurd z (by decide), fun z => absurd z (by decide), fun _ => space_ok 59 t (vN (σ.1 12 0 t)) σ _ (by decide) ht8 h6.1 er (h6.tot ht8) ⟨_, rfl, ?_, hI0⟩, fun z => absurd rfl z.2.2.2⟩, fun z => absurd cM z⟩
    have h4 := tot_split (Lm σ) t
    have htot := h6.tot ht8
    rw [g4, er, h6.held ht8 (k := 0) (by omega), h6.held ht8 (k := 1) (by omega), h6.held ht8 (k := 2) (by omega), vN_nI (by omega), pk_sub (by omega), pk_sub (by omega), pk_sub (by omega)]
    congr 3
    omega
  · refine wX11_of 60 _ a1 σ _ (by decide) ⟨fun _ => ⟨fun y => absurd y z.1, fun y => absurd y z.2.1, fun y => absurd y z.2.2.1, fun y => absurd y z.2.2.2, fun _ => ⟨fun _ => hno, fun y => absurd ?_ z2⟩⟩, fun y => absurd cM y⟩
    rw [e1] at y
    obtain ⟨w, hw, ew⟩ := (tw_iff2 (n := n) (by omega)).mp y
    have : a1 = nI (w + 10) := by
      have : a1 - 10 + 10 = nI w + nI 10 := by rw [ew]; rfl
      rw [Int32.sub_add_cancel, nI_add] at this
      exact this
    have e9 : 9 + σ.1 2 0 3 = nI (9 + n) := by rw [e2, show (9 : Int32) = nI 9 from rfl, nI_add]
    rw [this, e9]
    exact ⟨nI_le (a := 10) (by omega) (by omega), nI_le (by omega) (by omega)⟩
  · have e9 : 9 + σ.1 2 0 3 = nI (9 + n) := by rw [e2, show (9 : Int32) = nI 9 from rfl, nI_add]
    rw [e9] at z2
    obtain ⟨w, hw1, hw2, rfl⟩ := (rg_iff (a := 10) (b := 9 + n) (by omega) (by omega)).mp z2
    have ew : nI w - 10 = nI (w - 10) := pk_sub (b := 10) hw1
    rw [ew]
    have e8 : 8 * nI t + nI w - 10 = nI (8 * t + (w - 10)) := by
      rw [show (8 : Int32) = nI 8 from rfl, pk_mul, nI_add, show (10 : Int32) = nI 10 from rfl, pk_sub (by omega)]
      congr 1
      omega
    refine ⟨vp_in_nI (by omega) (by omega), step_of (wX11_of 60 _ _ σ _ (by decide) ⟨fun _ => ⟨fun y => absurd y z.1, fun y => absurd y z.2.1, fun y => absurd y z.2.2.1, fun y => absurd y z.2.2.2, fun _ => ⟨fun y => absurd ?_ y, fun _ => ?_⟩⟩, fun y => absurd cM y⟩)⟩
    · rw [ew, e1]
      exact ⟨nI_pos' (by omega), nI_lt (by omega) (by omega)⟩
    · rw [e8, nI_clamp (by omega), nI_clamp (by omega)]
      refine ⟨vp_in_nI (by omega) (by omega), ?_, hI0⟩
      rw [(h4 t (w - 10) ht8 (by omega)).1]
