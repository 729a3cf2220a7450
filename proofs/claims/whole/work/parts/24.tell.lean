theorem ladd_ok (d n : Nat) (a0 a1 a2 a3 a4 : Int32) (σ : HS) (Q : Option AV → HS → Prop) (hn : n < 60) (e : σ.1 11 0 6 = nI n) (h : Q (some (vI (nI n))) (up (up (up (up (up (up (up σ 98 0 n a0) 99 0 n a1) 100 0 n a2) 101 0 n a3) 102 0 n a4) 103 0 n (-1)) 11 0 6 (nI (n + 1)))) : MT d mX3_add [vR 11 0, vI a0, vI a1, vI a2, vI a3, vI a4] σ Q := by
  have hv : vp_in (nI n) 60 := vp_in_nI hn (by omega)
  refine wX3_add d a0 a1 a2 a3 a4 σ Q ⟨fun _ => ?_, fun q => absurd (by rw [e]; exact nI_lt (b := 60) hn (by decide)) q⟩
  rw [e, nI_clamp (by omega)]
  refine ⟨hv, ?_⟩
  rintro _ rfl
  have e2 : (up σ 98 0 n a0).1 11 0 6 = nI n := by simp [up_ne, e]
  rw [e2, nI_clamp (by omega)]
  refine ⟨hv, ?_⟩
  rintro _ rfl
  have e3 : (up (up σ 98 0 n a0) 99 0 n a1).1 11 0 6 = nI n := by simp [up_ne, e]
  rw [e3, nI_clamp (by omega)]
  refine ⟨hv, ?_⟩
  rintro _ rfl
  have e4 : (up (up (up σ 98 0 n a0) 99 0 n a1) 100 0 n a2).1 11 0 6 = nI n := by simp [up_ne, e]
  rw [e4, nI_clamp (by omega)]
  refine ⟨hv, ?_⟩
  rintro _ rfl
  have e5 : (up (up (up (up σ 98 0 n a0) 99 0 n a1) 100 0 n a2) 101 0 n a3).1 11 0 6 = nI n := by simp [up_ne, e]
  rw [e5, nI_clamp (by omega)]
  refine ⟨hv, ?_⟩
  rintro _ rfl
  have e6 : (up (up (up (up (up σ 98 0 n a0) 99 0 n a1) 100 0 n a2) 101 0 n a3) 102 0 n a4).1 11 0 6 = nI n := by simp [up_ne, e]
  rw [e6, nI_clamp (by omega)]
  refine ⟨hv, ?_⟩
  rintro _ rfl
  rintro _ rfl
  simpa [up_ne, up_k, e, nI_1, nI_pred] using h
theorem mtell_ok (d n p t k m x mo nt : Nat) (σ : HS) (Q : Option AV → HS → Prop) (hd : 1 ≤ d) (hn : n < 60) (e : σ.1 0 0 68 = nI n) (et : σ.1 0 0 7 = nI nt) (em : σ.1 0 0 8 = nI mo) (hnt : nt ≤ 8) (hmo : mo ≤ 2000) (hp : p ≤ 4) (ht : t < nt) (hk : k ≤ 2) (hm : m ≤ mo) (hx : x ≤ 1000000)
    (h : Q (some (vI (nI n))) (up (up (up (up (up (up (up (up σ 50 0 n (nI p)) 51 0 n (nI t)) 52 0 n (nI k)) 53 0 n (nI m)) 54 0 n (nI x)) 55 0 n (nI mo)) 56 0 n (-1)) 0 0 68 (nI (n + 1)))) : MT d mX11_tell [vR 0 0, vI (nI p), vI (nI t), vI (nI k), vI (nI m), vI (nI x)] σ Q := by
  have hv : vp_in (nI n) 60 := vp_in_nI hn (by omega)
  refine wX11_tell d _ _ _ _ _ σ Q hd ⟨fun q => absurd q (nI_pos (by omega)), fun _ => ⟨fun q => absurd q (nI_ge (a := p) (b := 5) (by omega) (by omega)), fun _ => ⟨fun q => ?_, fun _ => ⟨fun q => absurd ⟨nI_pos' (by omega), nI_lt (a := k) (b := 3) (by omega) (by omega)⟩ q, fun _ => ⟨fun q => absurd q (nI_pos (by omega)), fun _ => ⟨fun q => ?_, fun _ => ⟨fun q => absurd q (nI_pos (by omega)), fun _ => ⟨fun q => absurd q (nI_nlt (a := 1000000) (b := x) (by omega) (by omega)), fun _ => ⟨fun _ => ?_, fun q => ?_⟩⟩⟩⟩⟩⟩⟩⟩⟩
  · exact absurd (by rw [et]; exact ⟨nI_pos' (by omega), nI_lt ht (by omega)⟩) q
  · rw [em] at q; exact absurd q (nI_nlt hm (by omega))
  · skip
    rw [e, nI_clamp (by omega)]
    refine ⟨hv, ?_⟩
    rintro _ rfl
    have e2 : (up σ 50 0 n (nI p)).1 0 0 68 = nI n := by simp [up_ne, e]
    rw [e2, nI_clamp (by omega)]
    refine ⟨hv, ?_⟩
    rintro _ rfl
    have e3 : (up (up σ 50 0 n (nI p)) 51 0 n (nI t)).1 0 0 68 = nI n := by simp [up_ne, e]
    rw [e3, nI_clamp (by omega)]
    refine ⟨hv, ?_⟩
    rintro _ rfl
    have e4 : (up (up (up σ 50 0 n (nI p)) 51 0 n (nI t)) 52 0 n (nI k)).1 0 0 68 = nI n := by simp [up_ne, e]
    rw [e4, nI_clamp (by omega)]
    refine ⟨hv, ?_⟩
    rintro _ rfl
    have e5 : (up (up (up (up σ 50 0 n (nI p)) 51 0 n (nI t)) 52 0 n (nI k)) 53 0 n (nI m)).1 0 0 68 = nI n := by simp [up_ne, e]
    rw [e5, nI_clamp (by omega)]
    refine ⟨hv, ?_⟩
    rintro _ rfl
    have em5 : (up (up (up (up (up σ 50 0 n (nI p)) 51 0 n (nI t)) 52 0 n (nI k)) 53 0 n (nI m)) 54 0 n (nI x)).1 0 0 8 = nI mo := by simp [up_ne, em]
    have e6 : (up (up (up (up (up σ 50 0 n (nI p)) 51 0 n (nI t)) 52 0 n (nI k)) 53 0 n (nI m)) 54 0 n (nI x)).1 0 0 68 = nI n := by simp [up_ne, e]
    rw [e6, nI_clamp (by omega), em5]
    refine ⟨hv, ?_⟩
    rintro _ rfl
    have e7 : (up (up (up (up (up (up σ 50 0 n (nI p)) 51 0 n (nI t)) 52 0 n (nI k)) 53 0 n (nI m)) 54 0 n (nI x)) 55 0 n (nI mo)).1 0 0 68 = nI n := by simp [up_ne, e]
    rw [e7, nI_clamp (by omega)]
    refine ⟨hv, ?_⟩
    rintro _ rfl
    rintro _ rfl
    simpa [up_ne, up_k, e, nI_1, nI_pred] using h
  · rw [e] at q
    have := (nI_eq (a := n) (b := 60) (by omega) (by omega)).mp q
    omega
theorem st_tell (a0 a1 a2 a3 a4 : Int32) : Step mX10_tell mX11_tell [vI a0, vI a1, vI a2, vI a3, vI a4] := by
  intro σ hI
  have hI0 := hI
  obtain ⟨h1, h2, h3, h4, h5, h6, h7, h8, h9, h10, h11, h12, h13, h14⟩ := hI
  obtain ⟨n, hn, e1, e2, e3⟩ := id h1
  obtain ⟨mo, hmo, m1, m2⟩ := id h2
  obtain ⟨c, hc, f1, f2, f3⟩ := id h14
  have hno : PostS (-1) (some (vI (-1))) σ := ⟨rfl, hI0⟩
  have c0 : (0 ≤ a0 ∧ a0 ≤ 4) ↔ ∃ t, 0 ≤ t ∧ t ≤ 4 ∧ a0 = nI t := rg_iff (a := 0) (b := 4) (by omega) (by omega)
  have c1 : (0 ≤ a1 ∧ a1 ≤ σ.1 2 0 3 - 1) ↔ ∃ t, t < n ∧ a1 = nI t := by rw [e2]; exact tw_iff hn
  have c1' : (0 ≤ a1 ∧ a1 < σ.1 0 0 7) ↔ ∃ t, t < n ∧ a1 = nI t := by rw [e1]; exact tw_iff2 (by omega)
  have c2 : (0 ≤ a2 ∧ a2 ≤ 2) ↔ ∃ t, 0 ≤ t ∧ t ≤ 2 ∧ a2 = nI t := rg_iff (a := 0) (b := 2) (by omega) (by omega)
  have c3 : (0 ≤ a3 ∧ a3 ≤ σ.1 2 0 4) ↔ ∃ t, 0 ≤ t ∧ t ≤ mo ∧ a3 = nI t := by rw [m2]; exact rg_iff (a := 0) (by omega) (by omega)
  have c4 : (0 ≤ a4 ∧ a4 ≤ 1000000) ↔ ∃ t, 0 ≤ t ∧ t ≤ 1000000 ∧ a4 = nI t := rg_iff (a := 0) (b := 1000000) (by omega) (by omega)
  by_cases A : (0 ≤ a0 ∧ a0 ≤ 4) ∧ (0 ≤ a1 ∧ a1 ≤ σ.1 2 0 3 - 1) ∧ (0 ≤ a2 ∧ a2 ≤ 2) ∧ (0 ≤ a3 ∧ a3 ≤ σ.1 2 0 4) ∧ (0 ≤ a4 ∧ a4 ≤ 1000000)
  · obtain ⟨A0, A1, A2, A3, A4⟩ := A
    refine wX10_tell 60 a0 a1 a2 a3 a4 σ _ (by decide) ⟨fun q => absurd A0 q, fun _ => ⟨fun q => absurd A1 q, fun _ => ⟨fun _ => ⟨fun q => absurd A3 q, fun _ => ⟨fun _ => ?_, fun q => absurd A4 q⟩⟩, fun q => absurd A2 q⟩⟩⟩
    obtain ⟨p, -, hp, rfl⟩ := c0.mp A0
    obtain ⟨t, ht, rfl⟩ := c1.mp A1
    obtain ⟨k, -, hk, rfl⟩ := c2.mp A2
    obtain ⟨m, -, hm, rfl⟩ := c3.mp A3
    obtain ⟨x, -, hx, rfl⟩ := c4.mp A4
    have es : nI t * 3 + nI k = nI (3 * t + k) := by rw [show (3 : Int32) = nI 3 from rfl, pk_mul, nI_add, Nat.mul_comm]
    rw [es, m2]
    by_cases hc60 : c < 60
    · refine ladd_ok 59 c _ _ _ _ _ σ _ hc60 f2 ⟨_, rfl, step_of (mtell_ok 60 c p t k m x mo n _ _ (by decide) hc60 (by simp [up_ne, f1]) (by simp [up_ne, e1]) (by simp [up_ne, m1]) hn hmo hp ht hk hm hx ⟨rfl, by simpa [I1, up_ne, up_k] using h1, by simpa [I2, up_ne, up_k] using h2, by simpa [I3, up_ne, up_k] using h3, by simpa [I4, up_ne, up_k] using h4, by simpa [I5, up_ne, up_k] using h5, by simpa [I6, up_ne, up_k] using h6, by simpa [I7, up_ne, up_k] using h7, by simpa [I8, up_ne, up_k] using h8, by simpa [I9, up_ne, up_k] using h9, by simpa [I10, up_ne, up_k] using h10, by simpa [I11, up_ne, up_k] using h11, by simpa [I12, up_ne, up_k] using h12, by simpa [I13, up_ne, up_k] using h13, ?_⟩)⟩
      refine ⟨c + 1, by omega, by simp [up_k], by simp [up_ne, up_k], fun j hj => ?_⟩
      by_cases e : j = c
      · subst e
        refine ⟨⟨p, by omega, by simp [up_ne, up_k], by simp [up_ne, up_k]⟩, ⟨t, k, ?_, by omega, by simp [up_ne, up_k], by simp [up_ne, up_k], by simp [up_ne, up_k]⟩, by simp [up_ne, up_k], by simp [up_ne, up_k], ⟨x, hx, by simp [up_ne, up_k]⟩, by simp [up_ne, up_k], by simp [up_ne, up_k], Or.inl (by simp [up_ne, up_k])⟩
        simp [up_ne, up_k, e1, vN_nI (show n < 2 ^ 31 by omega), ht]
      · have := f3 j (by omega)
        simpa [up_ne, up_k, e] using this
    · have hfe : c = 60 := by omega
      subst hfe
      refine wX3_add 59 _ _ _ _ _ σ _ ⟨fun q => ?_, fun q => ⟨_, rfl, step_of ?_⟩⟩
      · rw [f2] at q
        exact absurd q (by decide)
      · exact wX11_tell 60 _ _ _ _ _ σ _ (by decide) ⟨fun _ => hno, fun _ => ⟨fun _ => hno, fun _ => ⟨fun _ => hno, fun _ => ⟨fun _ => hno, fun _ => ⟨fun _ => hno, fun _ => ⟨fun _ => hno, fun _ => ⟨fun _ => hno, fun _ => ⟨fun _ => hno, fun _ => ⟨fun q => absurd f1 q, fun _ => hno⟩⟩⟩⟩⟩⟩⟩⟩⟩
  · have hM : MT 60 mX11_tell [vR 0 0, vI a0, vI a1, vI a2, vI a3, vI a4] σ (PostS (-1)) := by
      refine wX11_tell 60 a0 a1 a2 a3 a4 σ _ (by decide) ⟨fun _ => hno, fun q0 => ⟨fun _ => hno, fun q1 => ⟨fun _ => hno, fun q2 => ⟨fun _ => hno, fun q3 => ⟨fun _ => hno, fun q4 => ⟨fun _ => hno, fun q5 => ⟨fun _ => hno, fun q6 => ⟨fun _ => hno, fun q7 => ⟨fun q8 => ?_, fun _ => hno⟩⟩⟩⟩⟩⟩⟩⟩⟩
      refine absurd ⟨⟨Int32.not_lt.mp q0, ?_⟩, c1.mpr (c1'.mp q2), ⟨q3.1, ?_⟩, ⟨Int32.not_lt.mp q4, ?_⟩, Int32.not_lt.mp q6, Int32.not_lt.mp q7⟩ A
      · clear A c0 c1 c1' c2 c3 c4 q0 q2 q3 q4 q5 q6 q7 q8 hno hI0 h1 h2 h3 h4 h5 h6 h7 h8 h9 h10 h11 h12 h13 h14 e1 e2 e3 m1 m2 f1 f2 f3; (simp only [Int32.le_iff_toInt_le, Int32.lt_iff_toInt_lt, ← Int32.toInt_inj, Int32.reduceToInt] at *; omega)
      · have := q3.2; clear A c0 c1 c1' c2 c3 c4 q0 q1 q2 q3 q4 q5 q6 q7 q8 hno hI0 h1 h2 h3 h4 h5 h6 h7 h8 h9 h10 h11 h12 h13 h14 e1 e2 e3 m1 m2 f1 f2 f3; (simp only [Int32.le_iff_toInt_le, Int32.lt_iff_toInt_lt, ← Int32.toInt_inj, Int32.reduceToInt] at *; omega)
      · rw [m2, ← m1]
        exact Int32.not_lt.mp q5
    refine wX10_tell 60 a0 a1 a2 a3 a4 σ _ (by decide) ⟨fun _ => step_of hM, fun q0 => ⟨fun _ => step_of hM, fun q1 => ⟨fun q2 => ⟨fun _ => step_of hM, fun q3 => ⟨fun q4 => absurd ⟨q0, q1, q2, q3, q4⟩ A, fun _ => step_of hM⟩⟩, fun _ => step_of hM⟩⟩⟩
