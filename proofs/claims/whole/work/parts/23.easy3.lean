theorem fadd_ok (d n : Nat) (a0 a1 a2 a3 : Int32) (σ : HS) (Q : Option AV → HS → Prop) (hn : n < 10) (e : σ.1 9 0 4 = nI n) (h : Q (some (vI (nI n))) (up (up (up (up (up σ 81 0 n a0) 82 0 n a1) 83 0 n a2) 84 0 n a3) 9 0 4 (nI (n + 1)))) : MT d mX1_add [vR 9 0, vI a0, vI a1, vI a2, vI a3] σ Q := by
  have hv : vp_in (nI n) 10 := vp_in_nI hn (by omega)
  refine wX1_add d a0 a1 a2 a3 σ Q ⟨fun _ => ?_, fun q => absurd (by rw [e]; exact nI_lt (b := 10) hn (by decide)) q⟩
  rw [e, nI_clamp (by omega)]
  refine ⟨hv, ?_⟩
  rintro _ rfl
  have e2 : (up σ 81 0 n a0).1 9 0 4 = nI n := by simp [up_ne, e]
  rw [e2, nI_clamp (by omega)]
  refine ⟨hv, ?_⟩
  rintro _ rfl
  have e3 : (up (up σ 81 0 n a0) 82 0 n a1).1 9 0 4 = nI n := by simp [up_ne, e]
  rw [e3, nI_clamp (by omega)]
  refine ⟨hv, ?_⟩
  rintro _ rfl
  have e4 : (up (up (up σ 81 0 n a0) 82 0 n a1) 83 0 n a2).1 9 0 4 = nI n := by simp [up_ne, e]
  rw [e4, nI_clamp (by omega)]
  refine ⟨hv, ?_⟩
  rintro _ rfl _ rfl
  simpa [up_ne, up_k, e, nI_1, nI_pred] using h
theorem mfeast_ok (d n t m k x mo nt : Nat) (σ : HS) (Q : Option AV → HS → Prop) (hd : 1 ≤ d) (hn : n < 10) (e : σ.1 0 0 55 = nI n) (et : σ.1 0 0 7 = nI nt) (em : σ.1 0 0 8 = nI mo) (hnt : nt ≤ 8) (ht : t < nt) (hm : mo ≤ m) (hm2 : m ≤ 2000) (hk : k ≤ 2) (hx : 1 ≤ x) (hx2 : x ≤ 10000)
    (h : Q (some (vI (nI n))) (up (up (up (up (up σ 38 0 n (nI t)) 39 0 n (nI m)) 40 0 n (nI k)) 41 0 n (nI x)) 0 0 55 (nI (n + 1)))) : MT d mX11_feast [vR 0 0, vI (nI t), vI (nI m), vI (nI k), vI (nI x)] σ Q := by
  have hv : vp_in (nI n) 10 := vp_in_nI hn (by omega)
  refine wX11_feast d _ _ _ _ σ Q hd ⟨fun q => ?_, fun _ => ⟨fun q => ?_, fun _ => ⟨fun q => ?_, fun _ => ⟨fun q => ?_, fun _ => ⟨fun q => ?_, fun _ => ⟨fun q => ?_, fun _ => ⟨fun _ => ?_, fun q => ?_⟩⟩⟩⟩⟩⟩⟩
  · exact absurd (by rw [et]; exact ⟨nI_pos' (by omega), nI_lt ht (by omega)⟩) q
  · rw [em] at q; exact absurd q (nI_nlt hm (by omega))
  · exact absurd q (nI_nlt (a := 2000) (b := m) (by omega) (by omega))
  · exact absurd ⟨nI_pos' (by omega), nI_lt (a := k) (b := 3) (by omega) (by omega)⟩ q
  · exact absurd q (nI_nlt (a := x) (b := 1) (by omega) (by omega))
  · exact absurd q (nI_nlt (a := 10000) (b := x) (by omega) (by omega))
  · rw [e, nI_clamp (by omega)]
    refine ⟨hv, ?_⟩
    rintro _ rfl
    have e2 : (up σ 38 0 n (nI t)).1 0 0 55 = nI n := by simp [up_ne, e]
    rw [e2, nI_clamp (by omega)]
    refine ⟨hv, ?_⟩
    rintro _ rfl
    have e3 : (up (up σ 38 0 n (nI t)) 39 0 n (nI m)).1 0 0 55 = nI n := by simp [up_ne, e]
    rw [e3, nI_clamp (by omega)]
    refine ⟨hv, ?_⟩
    rintro _ rfl
    have e4 : (up (up (up σ 38 0 n (nI t)) 39 0 n (nI m)) 40 0 n (nI k)).1 0 0 55 = nI n := by simp [up_ne, e]
    rw [e4, nI_clamp (by omega)]
    refine ⟨hv, ?_⟩
    rintro _ rfl _ rfl
    simpa [up_ne, up_k, e, nI_1, nI_pred] using h
  · rw [e] at q
    have := (nI_eq (a := n) (b := 10) (by omega) (by omega)).mp q
    omega
theorem st_feast (a0 a1 a2 a3 : Int32) : Step mX10_feast mX11_feast [vI a0, vI a1, vI a2, vI a3] := by
  intro σ hI
  have hI0 := hI
  obtain ⟨h1, h2, h3, h4, h5, h6, h7, h8, h9, h10, h11, h12, h13, h14⟩ := hI
  obtain ⟨n, hn, e1, e2, e3⟩ := id h1
  obtain ⟨mo, hmo, m1, m2⟩ := id h2
  obtain ⟨f, hf, f1, f2, f3⟩ := id h12
  have hno : PostS (-1) (some (vI (-1))) σ := ⟨rfl, hI0⟩
  have c1 : (0 ≤ a0 ∧ a0 ≤ σ.1 2 0 3 - 1) ↔ ∃ t, t < n ∧ a0 = nI t := by rw [e2]; exact tw_iff hn
  have c2 : (0 ≤ a0 ∧ a0 < σ.1 0 0 7) ↔ ∃ t, t < n ∧ a0 = nI t := by rw [e1]; exact tw_iff2 (by omega)
  have c3 : (σ.1 2 0 4 ≤ a1 ∧ a1 ≤ 2000) ↔ ∃ t, mo ≤ t ∧ t ≤ 2000 ∧ a1 = nI t := by rw [m2]; exact rg_iff (b := 2000) (by omega) (by omega)
  have c4 : (0 ≤ a2 ∧ a2 ≤ 2) ↔ ∃ t, 0 ≤ t ∧ t ≤ 2 ∧ a2 = nI t := rg_iff (a := 0) (b := 2) (by omega) (by omega)
  have c5 : (1 ≤ a3 ∧ a3 ≤ 10000) ↔ ∃ t, 1 ≤ t ∧ t ≤ 10000 ∧ a3 = nI t := rg_iff (a := 1) (b := 10000) (by omega) (by omega)
  by_cases A : (0 ≤ a0 ∧ a0 ≤ σ.1 2 0 3 - 1) ∧ (σ.1 2 0 4 ≤ a1 ∧ a1 ≤ 2000) ∧ (0 ≤ a2 ∧ a2 ≤ 2) ∧ (1 ≤ a3 ∧ a3 ≤ 10000)
  · obtain ⟨A0, A1, A2, A3⟩ := A
    refine wX10_feast 60 a0 a1 a2 a3 σ _ (by decide) ⟨fun q => absurd A0 q, fun _ => ⟨fun _ => ⟨fun q => absurd A2 q, fun _ => ⟨fun _ => ?_, fun q => absurd A3 q⟩⟩, fun q => absurd A1 q⟩⟩
    obtain ⟨t, ht, rfl⟩ := c1.mp A0
    obtain ⟨m, hm, hm2, rfl⟩ := c3.mp A1
    obtain ⟨k, -, hk, rfl⟩ := c4.mp A2
    obtain ⟨x, hx, hx2, rfl⟩ := c5.mp A3
    by_cases hf10 : f < 10
    · refine fadd_ok 59 f _ _ _ _ σ _ hf10 f2 ⟨_, rfl, step_of (mfeast_ok 60 f t m k x mo n _ _ (by decide) hf10 (by simp [up_ne, f1]) (by simp [up_ne, e1]) (by simp [up_ne, m1]) hn ht hm hm2 hk hx hx2 ⟨rfl, by simpa [I1, up_ne, up_k] using h1, by simpa [I2, up_ne, up_k] using h2, by simpa [I3, up_ne, up_k] using h3, by simpa [I4, up_ne, up_k] using h4, by simpa [I5, up_ne, up_k] using h5, by simpa [I6, up_ne, up_k] using h6, by simpa [I7, up_ne, up_k] using h7, by simpa [I8, up_ne, up_k] using h8, by simpa [I9, up_ne, up_k] using h9, by simpa [I10, up_ne, up_k] using h10, by simpa [I11, up_ne, up_k] using h11, ?_, by simpa [I13, up_ne, up_k] using h13, by simpa [I14, up_ne, up_k] using h14⟩)⟩
      refine ⟨f + 1, by omega, by simp [up_k], by simp [up_ne, up_k], fun j hj => ?_⟩
      by_cases e : j = f
      · subst e
        refine ⟨by simp [up_ne, up_k], by simp [up_ne, up_k], by simp [up_ne, up_k], by simp [up_ne, up_k], ⟨t, ?_, by simp [up_ne, up_k]⟩, ⟨m, hm2, by simp [up_ne, up_k]⟩, ⟨k, by omega, by simp [up_ne, up_k]⟩, ⟨x, hx, hx2, by simp [up_ne, up_k]⟩⟩
        simp [up_ne, up_k, e1, vN_nI (show n < 2 ^ 31 by omega), ht]
      · have := f3 j (by omega)
        simpa [up_ne, up_k, e] using this
    · have hfe : f = 10 := by omega
      subst hfe
      refine wX1_add 59 _ _ _ _ σ _ ⟨fun q => ?_, fun q => ⟨_, rfl, step_of ?_⟩⟩
      · rw [f2] at q
        exact absurd q (by decide)
      · exact wX11_feast 60 _ _ _ _ σ _ (by decide) ⟨fun _ => hno, fun _ => ⟨fun _ => hno, fun _ => ⟨fun _ => hno, fun _ => ⟨fun _ => hno, fun _ => ⟨fun _ => hno, fun _ => ⟨fun _ => hno, fun _ => ⟨fun q => absurd f1 q, fun _ => hno⟩⟩⟩⟩⟩⟩⟩
  · have hM : MT 60 mX11_feast [vR 0 0, vI a0, vI a1, vI a2, vI a3] σ (PostS (-1)) := by
      refine wX11_feast 60 a0 a1 a2 a3 σ _ (by decide) ⟨fun _ => hno, fun q0 => ⟨fun _ => hno, fun q1 => ⟨fun _ => hno, fun q2 => ⟨fun _ => hno, fun q3 => ⟨fun _ => hno, fun q4 => ⟨fun _ => hno, fun q5 => ⟨fun q6 => ?_, fun _ => hno⟩⟩⟩⟩⟩⟩⟩
      refine absurd ⟨c1.mpr (c2.mp q0), ⟨?_, ?_⟩, ⟨q3.1, ?_⟩, ?_, ?_⟩ A
      · rw [m2, ← m1]
        exact Int32.not_lt.mp q1
      · exact Int32.not_lt.mp q2
      · have := q3.2; clear A c1 c2 c3 c4 c5 q0 q1 q2 q3 q4 q5 q6 hno hI0 h1 h2 h3 h4 h5 h6 h7 h8 h9 h10 h11 h12 h13 h14 e1 e2 e3 m1 m2 f1 f2 f3; (simp only [Int32.le_iff_toInt_le, Int32.lt_iff_toInt_lt, ← Int32.toInt_inj, Int32.reduceToInt] at *; omega)
      · exact Int32.not_lt.mp q4
      · exact Int32.not_lt.mp q5
    refine wX10_feast 60 a0 a1 a2 a3 σ _ (by decide) ⟨fun _ => step_of hM, fun q0 => ⟨fun q1 => ⟨fun _ => step_of hM, fun q2 => ⟨fun q3 => absurd ⟨q0, q1, q2, q3⟩ A, fun _ => step_of hM⟩⟩, fun _ => step_of hM⟩⟩
theorem st_untell (a0 : Int32) : Step mX10_untell mX11_untell [vI a0] := by
  intro σ hI
  have hI0 := hI
  obtain ⟨h1, h2, h3, h4, h5, h6, h7, h8, h9, h10, h11, h12, h13, h14⟩ := hI
  obtain ⟨mo, hmo, m1, m2⟩ := id h2
  obtain ⟨c, hc, f1, f2, f3⟩ := id h14
  have hno : PostS 0 (some (vI 0)) σ := ⟨rfl, hI0⟩
  have hsz : (nI c - 1).toInt = (c : Int) - 1 := pk_sub_toInt (a := c) (b := 1) (by omega) (by omega)
  refine wX10_untell 60 a0 σ _ (by decide) (wX3_withdraw 59 a0 _ σ _ (by decide) ⟨fun q => ⟨0, rfl, rfl, step_of ?_⟩, fun q => ?_⟩)
  · rw [f2] at q
    refine wX11_untell 60 a0 σ _ ⟨fun _ => hno, fun q1 => ⟨fun _ => hno, fun q2 => ?_⟩⟩
    exfalso
    rw [f1] at q2
    apply q
    rw [Int32.le_iff_toInt_le, Int32.le_iff_toInt_le, hsz]
    rw [Int32.le_iff_toInt_le, nI_toInt (by omega)] at q2
    rw [Int32.lt_iff_toInt_lt] at q1
    have : (0 : Int32).toInt = 0 := rfl
    omega
  · rw [f2] at q
    obtain ⟨j, hj, rfl⟩ : ∃ j, j < c ∧ a0 = nI j := by
      obtain ⟨q1, q2⟩ := q
      obtain ⟨j, hj, rfl⟩ := nI_of (x := a0) (by rw [Int32.lt_iff_toInt_lt]; rw [Int32.le_iff_toInt_le] at q1; omega)
      rw [Int32.le_iff_toInt_le, hsz, nI_toInt hj] at q2
      exact ⟨j, by omega, rfl⟩
    have hv : vp_in (nI j) 60 := vp_in_nI (by omega) (by omega)
    have c1 : ¬ nI j < 0 := nI_pos (by omega)
    have c2 : ¬ σ.1 0 0 68 ≤ nI j := by rw [f1]; exact nI_ge hj (by omega)
    obtain ⟨g1, g2, g3, g4, g5, g6, g7, g8⟩ := f3 j hj
    refine ⟨hv, ?_⟩
    rw [nI_clamp (by omega)]
    refine ⟨fun q2 => ⟨hv, ?_⟩, fun q2 => ⟨0, rfl, rfl, step_of ?_⟩⟩
    · rintro _ rfl
      refine ⟨1, rfl, rfl, step_of (wX11_untell 60 _ _ _ ⟨fun q3 => absurd q3 c1, fun _ => ⟨fun q3 => absurd q3 (by simpa [up_ne] using c2), fun _ => ⟨hv, fun _ => ⟨hv, ?_⟩, fun q3 => ?_⟩⟩⟩)⟩
      · rintro _ rfl
        rw [nI_clamp (by omega)]
        refine ⟨rfl, by simpa [I1, up_ne, up_k] using h1, by simpa [I2, up_ne, up_k] using h2, by simpa [I3, up_ne, up_k] using h3, by simpa [I4, up_ne, up_k] using h4, by simpa [I5, up_ne, up_k] using h5, by simpa [I6, up_ne, up_k] using h6, by simpa [I7, up_ne, up_k] using h7, by simpa [I8, up_ne, up_k] using h8, by simpa [I9, up_ne, up_k] using h9, by simpa [I10, up_ne, up_k] using h10, by simpa [I11, up_ne, up_k] using h11, by simpa [I12, up_ne, up_k] using h12, by simpa [I13, up_ne, up_k] using h13, ?_⟩
        refine ⟨c, hc, by simpa [up_ne, up_k] using f1, by simpa [up_ne, up_k] using f2, fun i hi => ?_⟩
        by_cases e : i = j
        · subst e
          refine ⟨by simpa [up_ne, up_k] using g1, by simpa [up_ne, up_k] using g2, by simpa [up_ne, up_k] using g3, by simpa [up_ne, up_k] using g4, by simpa [up_ne, up_k] using g5, by simpa [up_ne, up_k] using g6, by simp [up_ne, up_k, m1, m2], Or.inr ⟨mo, hmo, by simp [up_ne, up_k, m1]⟩⟩
        · have := f3 i hi
          simpa [up_ne, up_k, e] using this
      · exfalso
        apply q3
        rw [nI_clamp (by omega), up_ne (by decide), ← g7, q2]
        decide
    · refine wX11_untell 60 _ σ _ ⟨fun q3 => absurd q3 c1, fun _ => ⟨fun q3 => absurd q3 c2, fun _ => ⟨hv, fun q3 => ?_, fun _ => hno⟩⟩⟩
      exfalso
      rw [nI_clamp (by omega)] at q3
      rw [g7] at q2
      rcases g8 with z | ⟨z, hz, z2⟩
      · exact q2 z
      · rw [z2] at q3
        exact absurd q3 (nI_pos (by omega))
theorem st_about (a0 : Int32) : Step mX10_about mX11_about [vI a0] := by
  intro σ hI
  have hI0 := hI
  obtain ⟨h1, h2, h3, h4, h5, h6, h7, h8, h9, h10, h11, h12, h13, h14⟩ := hI
  obtain ⟨n, hn, e1, e2, e3⟩ := id h1
  obtain ⟨mo, hmo, m1, m2⟩ := id h2
  obtain ⟨r, b, nl, st, hr, hb, hnl, r1, r2, r3, r4, r5, r6⟩ := id h10
  obtain ⟨f, hf, f1, f2, f3⟩ := id h12
  obtain ⟨c, hc, g1, g2, g3⟩ := id h14
  obtain ⟨bb, hbb, t1, t2, t3⟩ := id h9
  refine wX10_about 60 a0 σ _ (by decide) ⟨?_, ?_, ?_, ?_, ?_, ?_, ?_, fun q => ⟨fun q2 => step_of ?_, fun q2 => ?_⟩⟩
  · rintro rfl
    refine step_of ?_
    exact wX11_about 60 0 σ _ (by decide) ⟨fun _ => ⟨by rw [m1, m2], hI0⟩, fun z => absurd z (by decide), fun z => absurd z (by decide), fun z => absurd z (by decide), fun z => absurd z (by decide), fun z => absurd z (by decide), fun z => absurd z (by decide), fun z => absurd rfl z.1⟩
  · rintro rfl
    refine step_of ?_
    exact wX11_about 60 1 σ _ (by decide) ⟨fun z => absurd z (by decide), fun _ => ⟨by rw [e1, e2], hI0⟩, fun z => absurd z (by decide), fun z => absurd z (by decide), fun z => absurd z (by decide), fun z => absurd z (by decide), fun z => absurd z (by decide), fun z => absurd rfl z.2.1⟩
  · rintro rfl
    refine ⟨by rw [r1, nI_clamp (by omega)]; exact hr, step_of ?_⟩
    exact wX11_about 60 2 σ _ (by decide) ⟨fun z => absurd z (by decide), fun z => absurd z (by decide), fun _ => ⟨by rw [r3]; exact vp_in_nI hb (by omega), by rw [r1, r3, nI_clamp (by omega), nI_clamp (by omega), r4, r5], hI0⟩, fun z => absurd z (by decide), fun z => absurd z (by decide), fun z => absurd z (by decide), fun z => absurd z (by decide), fun z => absurd rfl z.2.2.1⟩
  · rintro rfl
    refine step_of ?_
    exact wX11_about 60 3 σ _ (by decide) ⟨fun z => absurd z (by decide), fun z => absurd z (by decide), fun z => absurd z (by decide), fun _ => ⟨by rw [f1, f2], hI0⟩, fun z => absurd z (by decide), fun z => absurd z (by decide), fun z => absurd z (by decide), fun z => absurd rfl z.2.2.2.1⟩
  · rintro rfl
    refine step_of ?_
    exact wX11_about 60 4 σ _ (by decide) ⟨fun z => absurd z (by decide), fun z => absurd z (by decide), fun z => absurd z (by decide), fun z => absurd z (by decide), fun _ => ⟨by rw [h13.1], hI0⟩, fun z => absurd z (by decide), fun z => absurd z (by decide), fun z => absurd rfl z.2.2.2.2.1⟩
  · rintro rfl
    refine step_of ?_
    exact wX11_about 60 5 σ _ (by decide) ⟨fun z => absurd z (by decide), fun z => absurd z (by decide), fun z => absurd z (by decide), fun z => absurd z (by decide), fun z => absurd z (by decide), fun _ => ⟨by rw [g1, g2], hI0⟩, fun z => absurd z (by decide), fun z => absurd rfl z.2.2.2.2.2.1⟩
  · rintro rfl
    refine step_of ?_
    exact wX11_about 60 6 σ _ (by decide) ⟨fun z => absurd z (by decide), fun z => absurd z (by decide), fun z => absurd z (by decide), fun z => absurd z (by decide), fun z => absurd z (by decide), fun z => absurd z (by decide), fun _ => ⟨by rw [t1, t2], hI0⟩, fun z => absurd rfl z.2.2.2.2.2.2⟩
  · refine wX11_about 60 a0 σ _ (by decide) ⟨fun z => absurd z q.1, fun z => absurd z q.2.1, fun z => absurd z q.2.2.1, fun z => absurd z q.2.2.2.1, fun z => absurd z q.2.2.2.2.1, fun z => absurd z q.2.2.2.2.2.1, fun z => absurd z q.2.2.2.2.2.2, fun _ => ⟨fun _ => ⟨rfl, hI0⟩, fun q3 => absurd ?_ q2⟩⟩
    obtain ⟨w, hw, ew⟩ := (tw_iff2 (n := 3) (by omega)).mp q3
    have : a0 = nI (w + 10) := by
      have : a0 - 10 + 10 = nI w + nI 10 := by rw [ew]; rfl
      rw [Int32.sub_add_cancel, nI_add] at this
      exact this
    rw [this]
    exact ⟨nI_le (a := 10) (by omega) (by omega), nI_le (b := 12) (by omega) (by omega)⟩
  · obtain ⟨w, hw1, hw2, rfl⟩ := (rg_iff (a := 10) (b := 12) (by omega) (by omega)).mp q2
    have ew : nI w - 10 = nI (w - 10) := pk_sub (b := 10) hw1
    have hv : vp_in (nI (w - 10)) 3 := vp_in_nI (by omega) (by omega)
    rw [ew]
    refine ⟨hv, step_of (wX11_about 60 _ σ _ (by decide) ⟨fun z => absurd z q.1, fun z => absurd z q.2.1, fun z => absurd z q.2.2.1, fun z => absurd z q.2.2.2.1, fun z => absurd z q.2.2.2.2.1, fun z => absurd z q.2.2.2.2.2.1, fun z => absurd z q.2.2.2.2.2.2, fun _ => ⟨fun q3 => absurd ?_ q3, fun _ => ⟨by rw [ew]; exact hv, ?_, hI0⟩⟩⟩)⟩
    · rw [ew]
      exact ⟨nI_pos' (by omega), nI_lt (a := w - 10) (b := 3) (by omega) (by omega)⟩
    · rw [ew, nI_clamp (by omega), (h5 (w - 10) (by omega)).1]
