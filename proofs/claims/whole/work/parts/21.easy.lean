def PostS (x : Int32) (r : Option AV) (σ : HS) : Prop := r = some (vI x) ∧ Inv σ
theorem step_of {M2 : MI} {As : List AV} {σ1 : HS} {x : Int32} (h : MT 60 M2 (vR 0 0 :: As) σ1 (PostS x)) : ∃ z, some (vI x) = some (vI z) ∧ MT 60 M2 (vR 0 0 :: As) σ1 (fun r2 σ2 => r2 = some (vI z) ∧ Inv σ2) := ⟨x, rfl, h⟩
theorem st_fault (a0 : Int32) : Step mX10_fault mX11_fault [vI a0] := by
  intro σ hI
  have hI0 := hI
  obtain ⟨-, -, -, -, -, -, -, -, -, -, ⟨f1, f2⟩, -⟩ := hI
  refine wX10_fault 60 a0 σ _ ⟨fun q => step_of ?_, fun q => step_of ?_, fun q => step_of ?_⟩
  · exact wX11_fault 60 a0 σ _ ⟨fun q2 => absurd q q2, fun _ => ⟨by rw [f1], hI0⟩⟩
  · exact wX11_fault 60 a0 σ _ ⟨fun _ => ⟨fun q3 => absurd q q3, fun _ => ⟨by rw [f2], hI0⟩⟩, fun q2 => by rw [q] at q2; cases q2⟩
  · exact wX11_fault 60 a0 σ _ ⟨fun _ => ⟨fun _ => ⟨rfl, hI0⟩, fun q3 => absurd q3 q.2⟩, fun q2 => absurd q2 q.1⟩
theorem st_gave (a0 : Int32) : Step mX10_gave mX11_gave [vI a0] := by
  intro σ hI
  have hI0 := hI
  obtain ⟨⟨n, hn, e1, e2, e3⟩, -, -, -, -, -, -, -, -, -, -, -, h13, -⟩ := hI
  have c1 : (0 ≤ a0 ∧ a0 ≤ σ.1 2 0 3 - 1) ↔ ∃ t, t < n ∧ a0 = nI t := by rw [e2]; exact tw_iff hn
  have c2 : (0 ≤ a0 ∧ a0 < σ.1 0 0 7) ↔ ∃ t, t < n ∧ a0 = nI t := by rw [e1]; exact tw_iff2 (by omega)
  refine wX10_gave 60 a0 σ _ (by decide) ⟨fun q => step_of ?_, fun q => ?_⟩
  · exact wX11_gave 60 a0 σ _ (by decide) ⟨fun _ => ⟨rfl, hI0⟩, fun q2 => absurd (c1.mpr (c2.mp q2)) q⟩
  · obtain ⟨t, ht, rfl⟩ := c1.mp q
    have hv : vp_in (nI t) 8 := vp_in_nI (by omega) (by omega)
    refine ⟨hv, step_of (wX11_gave 60 _ σ _ (by decide) ⟨fun q2 => absurd (c2.mpr (c1.mp q)) q2, fun _ => ⟨hv, ?_, hI0⟩⟩)⟩
    rw [nI_clamp (by omega), h13.2.2 t (by omega)]
theorem st_end (a0 : Int32) : Step mX10_end mX11_end [vI a0] := by
  intro σ hI
  have hI0 := hI
  obtain ⟨h1, h2, h3, h4, h5, h6, h7, h8, ⟨b, hb, t1, t2, t3⟩, h10, h11, h12, h13, h14⟩ := hI
  refine wX10_end 60 a0 σ _ (by decide) ⟨fun q => ?_, fun q => step_of ?_⟩
  · rintro _ rfl
    refine step_of (wX11_end 60 a0 _ _ ⟨fun q2 => ?_, fun _ => ⟨fun _ => ?_, fun q2 => ?_⟩⟩)
    · exact absurd q2 (by have := q.1; (simp only [Int32.le_iff_toInt_le, Int32.lt_iff_toInt_lt, ← Int32.toInt_inj, Int32.reduceToInt] at *; omega))
    · rintro _ rfl
      rw [t2] at q
      have hq : (nI 0 ≤ a0 ∧ a0 ≤ nI b) := q
      obtain ⟨j, -, hj, rfl⟩ := (rg_iff (by omega) (by omega)).mp hq
      refine ⟨rfl, by simpa [I1, up_ne, up_k] using h1, by simpa [I2, up_ne, up_k] using h2, by simpa [I3, up_ne, up_k] using h3, by simpa [I4, up_ne, up_k] using h4, by simpa [I5, up_ne, up_k] using h5, by simpa [I6, up_ne, up_k] using h6, by simpa [I7, up_ne, up_k] using h7, by simpa [I8, up_ne, up_k] using h8, ?_, by simpa [I10, up_ne, up_k] using h10, by simpa [I11, up_ne, up_k] using h11, by simpa [I12, up_ne, up_k] using h12, by simpa [I13, up_ne, up_k] using h13, by simpa [I14, up_ne, up_k] using h14⟩
      refine ⟨j, by omega, by simp [up_k], by simp [up_ne, up_k], fun i hi => ?_⟩
      have := t3 i (by omega)
      simpa [up_ne, up_k] using this
    · exfalso
      simp only [up_ne (show (0 : Nat) ≠ 1 by decide)] at q2
      rw [t1, ← t2] at q2
      exact q2 q.2
  · refine wX11_end 60 a0 σ _ ⟨fun _ => ⟨rfl, hI0⟩, fun q2 => ⟨fun q3 => ?_, fun _ => ⟨rfl, hI0⟩⟩⟩
    exfalso
    rw [t1, ← t2] at q3
    exact q ⟨by (simp only [Int32.le_iff_toInt_le, Int32.lt_iff_toInt_lt, ← Int32.toInt_inj, Int32.reduceToInt] at *; omega), q3⟩
theorem st_cancel : Step mX10_cancel mX11_cancel [] := by
  intro σ hI
  have hI0 := hI
  obtain ⟨h1, h2, h3, h4, h5, h6, h7, h8, h9, h10, h11, ⟨f, hf, t1, t2, t3⟩, h13, h14⟩ := hI
  refine wX10_cancel 60 σ _ ⟨fun q => ?_, fun q => step_of ?_⟩
  · rintro _ rfl
    have hf0 : f ≠ 0 := fun e => q (by rw [t2, e]; rfl)
    refine step_of (wX11_cancel 60 _ _ ⟨fun _ => ?_, fun q2 => ?_⟩)
    · rintro _ rfl
      refine ⟨rfl, by simpa [I1, up_ne, up_k] using h1, by simpa [I2, up_ne, up_k] using h2, by simpa [I3, up_ne, up_k] using h3, by simpa [I4, up_ne, up_k] using h4, by simpa [I5, up_ne, up_k] using h5, by simpa [I6, up_ne, up_k] using h6, by simpa [I7, up_ne, up_k] using h7, by simpa [I8, up_ne, up_k] using h8, by simpa [I9, up_ne, up_k] using h9, by simpa [I10, up_ne, up_k] using h10, by simpa [I11, up_ne, up_k] using h11, ?_, by simpa [I13, up_ne, up_k] using h13, by simpa [I14, up_ne, up_k] using h14⟩
      have e : nI f - 1 = nI (f - 1) := pk_sub (b := 1) (by omega)
      refine ⟨f - 1, by omega, by simp [up_ne, up_k, t1, e], by simp [up_ne, up_k, t2, e], fun i hi => ?_⟩
      have := t3 i (by omega)
      simpa [up_ne, up_k] using this
    · exfalso
      simp only [up_ne (show (0 : Nat) ≠ 9 by decide)] at q2
      exact q (by rw [t2, ← t1]; exact q2)
  · exact wX11_cancel 60 σ _ ⟨fun q2 => absurd (by rw [t1, ← t2]; exact q) q2, fun _ => ⟨rfl, hI0⟩⟩
theorem st_keeps (a0 a1 : Int32) : Step mX10_keeps mX11_keeps [vI a0, vI a1] := by
  intro σ hI
  have hI0 := hI
  obtain ⟨h1, h2, h3, h4, h5, h6, h7, h8, h9, h10, h11, h12, h13, h14⟩ := hI
  refine wX10_keeps 60 a0 a1 σ _ (by decide) ⟨fun q => step_of ?_, fun q => ⟨fun q2 => ?_, fun q2 => step_of ?_⟩⟩
  · exact wX11_keeps 60 a0 a1 σ _ (by decide) ⟨fun _ => ⟨rfl, hI0⟩, fun q2 => absurd q2 (by clear hI0 h1 h2 h3 h4 h5 h6 h7 h8 h9 h10 h11 h12 h13 h14; (simp only [Int32.le_iff_toInt_le, Int32.lt_iff_toInt_lt, ← Int32.toInt_inj, Int32.reduceToInt] at *; omega))⟩
  · have hq : (nI 0 ≤ a0 ∧ a0 ≤ nI 2) := q
    have hq2 : (nI 1 ≤ a1 ∧ a1 ≤ nI 60) := q2
    obtain ⟨k, -, hk, rfl⟩ := (rg_iff (by omega) (by omega)).mp hq
    obtain ⟨x, hx1, hx2, rfl⟩ := (rg_iff (by omega) (by omega)).mp hq2
    have hv : vp_in (nI k) 3 := vp_in_nI (by omega) (by omega)
    refine ⟨hv, ?_⟩
    rintro _ rfl
    refine step_of (wX11_keeps 60 _ _ _ _ (by decide) ⟨fun q3 => ?_, fun _ => ⟨fun q3 => ?_, fun _ => ⟨fun _ => ⟨hv, ?_⟩, fun q3 => ?_⟩⟩⟩)
    · exact absurd ⟨nI_pos' (by omega), nI_lt (a := k) (b := 3) (by omega) (by omega)⟩ q3
    · exact absurd q3 (nI_nlt (a := x) (b := 1) (by omega) (by omega))
    · rintro _ rfl
      rw [nI_clamp (by omega)]
      refine ⟨rfl, by simpa [I1, up_ne, up_k] using h1, by simpa [I2, up_ne, up_k] using h2, by simpa [I3, up_ne, up_k] using h3, by simpa [I4, up_ne, up_k] using h4, ?_, by simpa [I6, up_ne, up_k] using h6, by simpa [I7, up_ne, up_k] using h7, by simpa [I8, up_ne, up_k] using h8, by simpa [I9, up_ne, up_k] using h9, by simpa [I10, up_ne, up_k] using h10, by simpa [I11, up_ne, up_k] using h11, by simpa [I12, up_ne, up_k] using h12, by simpa [I13, up_ne, up_k] using h13, by simpa [I14, up_ne, up_k] using h14⟩
      intro k' hk'
      have := h5 k' hk'
      by_cases e : k' = k
      · subst e
        simp only [up_ne (show (62 : Nat) ≠ 16 by decide), up_same]
        exact ⟨trivial, x, hx1, hx2, rfl⟩
      · simpa [up_ne, up_k, e] using this
    · exact absurd (nI_le (a := x) (b := 60) (by omega) (by omega)) q3
  · exact wX11_keeps 60 a0 a1 σ _ (by decide) ⟨fun _ => ⟨rfl, hI0⟩, fun _ => ⟨fun _ => ⟨rfl, hI0⟩, fun q3 => ⟨fun q4 => absurd ⟨(by clear hI0 h1 h2 h3 h4 h5 h6 h7 h8 h9 h10 h11 h12 h13 h14; (simp only [Int32.le_iff_toInt_le, Int32.lt_iff_toInt_lt, ← Int32.toInt_inj, Int32.reduceToInt] at *; omega)), q4⟩ q2, fun _ => ⟨rfl, hI0⟩⟩⟩⟩
