theorem found_ok (d n : Nat) (a0 a1 a2 : Int32) (σ : HS) (Q : Option AV → HS → Prop) (hn : n < 8) (e : σ.1 2 0 3 = nI n) (h : Q (some (vI (nI n))) (up (up (up (up σ 3 n 0 a0) 3 n 1 a1) 3 n 2 a2) 2 0 3 (nI (n + 1)))) : MT d mX2_found [vR 2 0, vI a0, vI a1, vI a2] σ Q := by
  refine wX2_found d a0 a1 a2 σ Q ⟨fun _ => ?_, fun q => absurd (by rw [e]; exact nI_lt (b := 8) hn (by decide)) q⟩
  rw [e, nI_clamp (by omega)]
  refine ⟨vp_in_nI hn (by omega), ?_⟩
  rintro _ rfl _ rfl _ rfl _ rfl
  simpa [up_ne, up_k, e, nI_1, nI_pred] using h
theorem mtown_ok (d n : Nat) (a0 a1 a2 : Int32) (σ : HS) (Q : Option AV → HS → Prop) (hn : n < 8) (e : σ.1 0 0 7 = nI n) (A0 : 0 ≤ a0 ∧ a0 ≤ 100000) (A1 : 0 ≤ a1 ∧ a1 ≤ 1000) (A2 : 0 ≤ a2 ∧ a2 ≤ 500) (h : Q (some (vI (nI n))) (up (up (up (up σ 12 0 n a0) 13 0 n a1) 14 0 n a2) 0 0 7 (nI (n + 1)))) : MT d mX11_town [vR 0 0, vI a0, vI a1, vI a2] σ Q := by
  have hv : vp_in (nI n) 8 := vp_in_nI hn (by omega)
  refine wX11_town d a0 a1 a2 σ Q ⟨fun q => ?_, fun _ => ⟨fun q => ?_, fun _ => ⟨fun q => ?_, fun _ => ⟨fun q => ?_, fun _ => ⟨fun q => ?_, fun _ => ⟨fun q => ?_, fun _ => ⟨fun _ => ?_, fun q => ?_⟩⟩⟩⟩⟩⟩⟩
  case refine_7 =>
    rw [e, nI_clamp (by omega)]
    refine ⟨hv, ?_⟩
    rintro _ rfl
    have e2 : (up σ 12 0 n a0).1 0 0 7 = nI n := by simp [up_ne, e]
    rw [e2, nI_clamp (by omega)]
    refine ⟨hv, ?_⟩
    rintro _ rfl
    have e3 : (up (up σ 12 0 n a0) 13 0 n a1).1 0 0 7 = nI n := by simp [up_ne, e]
    rw [e3, nI_clamp (by omega)]
    refine ⟨hv, ?_⟩
    rintro _ rfl _ rfl
    simpa [up_ne, up_k, e, nI_1, nI_pred] using h
  case refine_8 =>
    rw [e] at q
    have := (nI_eq (a := n) (b := 8) (by omega) (by omega)).mp q
    omega
  all_goals (exfalso; clear h; (simp only [Int32.le_iff_toInt_le, Int32.lt_iff_toInt_lt, ← Int32.toInt_inj, Int32.reduceToInt] at *; omega))
theorem st_town (a0 a1 a2 : Int32) : Step mX10_town mX11_town [vI a0, vI a1, vI a2] := by
  intro σ hI
  have hI0 := hI
  obtain ⟨⟨n, hn, e1, e2, e3⟩, h2, h3, h4, h5, h6, h7, h8, h9, h10, h11, h12, h13, h14⟩ := hI
  have hno : PostS (-1) (some (vI (-1))) σ := ⟨rfl, hI0⟩
  by_cases A : (0 ≤ a0 ∧ a0 ≤ 100000) ∧ (0 ≤ a1 ∧ a1 ≤ 1000) ∧ (0 ≤ a2 ∧ a2 ≤ 500)
  · obtain ⟨A0, A1, A2⟩ := A
    refine wX10_town 60 a0 a1 a2 σ _ (by decide) ⟨fun q => absurd A0 q, fun _ => ⟨fun q => absurd A1 q, fun _ => ⟨fun _ => ?_, fun q => absurd A2 q⟩⟩⟩
    by_cases hn8 : n < 8
    · refine found_ok 59 n a0 a1 a2 σ _ hn8 e2 ⟨_, rfl, step_of (mtown_ok 60 n a0 a1 a2 _ _ hn8 (by simp [up_ne, e1]) A0 A1 A2 ⟨rfl, ?_⟩)⟩
      obtain ⟨x0, -, hx0, rfl⟩ := (rg_iff (a := 0) (b := 100000) (by omega) (by omega)).mp A0
      obtain ⟨x1, -, hx1, rfl⟩ := (rg_iff (a := 0) (b := 1000) (by omega) (by omega)).mp A1
      obtain ⟨x2, -, hx2, rfl⟩ := (rg_iff (a := 0) (b := 500) (by omega) (by omega)).mp A2
      refine ⟨?_, by simpa [I2, up_ne, up_k] using h2, ?_, by simpa [I4, up_ne, up_k] using h4, by simpa [I5, up_ne, up_k] using h5, ?_, by simpa [I7, up_ne, up_k] using h7, ?_, by simpa [I9, up_ne, up_k] using h9, by simpa [I10, up_ne, up_k] using h10, by simpa [I11, up_ne, up_k] using h11, ?_, by simpa [I13, up_ne, up_k] using h13, ?_⟩
      · refine ⟨n + 1, by omega, by simp [up_k], by simp [up_ne, up_k], fun t h1 h2 => ?_⟩
        have := e3 t (by omega) h2
        simpa [up_ne, up_k, show ¬ t = n by omega] using this
      · intro t ht
        have := h3 t ht
        by_cases e : t = n
        · subst e
          simp only [up_ne (show (12 : Nat) ≠ 0 by decide), up_ne (show (12 : Nat) ≠ 14 by decide), up_ne (show (12 : Nat) ≠ 13 by decide), up_ne (show (13 : Nat) ≠ 0 by decide), up_ne (show (13 : Nat) ≠ 14 by decide), up_ne (show (14 : Nat) ≠ 0 by decide), up_same]
          refine ⟨⟨x0, hx0, rfl⟩, ⟨x1, hx1, rfl⟩, ⟨x2, hx2, rfl⟩, ?_, ?_, ?_⟩ <;> simp [up_ne, up_k]
        · simpa [up_ne, up_k, e] using this
      · obtain ⟨l1, l2, l3, l4⟩ := h6
        refine ⟨by simpa [up_ne, up_k] using l1, by simpa [up_ne, up_k] using l2, by simpa [up_ne, up_k] using l3, fun t ht => ?_⟩
        have := l4 t ht
        by_cases e : t = n
        · subst e
          rw [e3 t (Nat.le_refl _) ht] at this
          have h0 : vN 0 = 0 := rfl
          rw [h0] at this
          simp only [up_ne (show (17 : Nat) ≠ 0 by decide), up_ne (show (17 : Nat) ≠ 14 by decide), up_ne (show (17 : Nat) ≠ 13 by decide), up_ne (show (17 : Nat) ≠ 12 by decide), up_ne (show (17 : Nat) ≠ 2 by decide), up_ne (show (17 : Nat) ≠ 3 by decide)]
          omega
        · simpa [up_ne, up_k, e] using this
      · obtain ⟨w, hw, w1, w2, w3⟩ := h8
        refine ⟨w, hw, by simpa [up_ne, up_k] using w1, by simpa [up_ne, up_k] using w2, fun j hj => ?_⟩
        obtain ⟨v1, v2, v3, v4, v5, ⟨t, v6, v7⟩, v8⟩ := w3 j hj
        rw [e1, vN_nI (by omega)] at v6
        refine ⟨by simpa [up_ne, up_k] using v1, by simpa [up_ne, up_k] using v2, by simpa [up_ne, up_k] using v3, by simpa [up_ne, up_k] using v4, by simpa [up_ne, up_k] using v5, ⟨t, ?_, by simpa [up_ne, up_k] using v7⟩, by simpa [up_ne, up_k] using v8⟩
        rw [up_same, vN_nI (by omega)]
        omega
      · obtain ⟨w, hw, w1, w2, w3⟩ := h12
        refine ⟨w, hw, by simpa [up_ne, up_k] using w1, by simpa [up_ne, up_k] using w2, fun j hj => ?_⟩
        obtain ⟨v1, v2, v3, v4, ⟨t, v6, v7⟩, v8⟩ := w3 j hj
        rw [e1, vN_nI (by omega)] at v6
        refine ⟨by simpa [up_ne, up_k] using v1, by simpa [up_ne, up_k] using v2, by simpa [up_ne, up_k] using v3, by simpa [up_ne, up_k] using v4, ⟨t, ?_, by simpa [up_ne, up_k] using v7⟩, by simpa [up_ne, up_k] using v8⟩
        rw [up_same, vN_nI (by omega)]
        omega
      · obtain ⟨w, hw, w1, w2, w3⟩ := h14
        refine ⟨w, hw, by simpa [up_ne, up_k] using w1, by simpa [up_ne, up_k] using w2, fun j hj => ?_⟩
        obtain ⟨v1, ⟨t, k, v6, v7⟩, v8⟩ := w3 j hj
        rw [e1, vN_nI (by omega)] at v6
        refine ⟨by simpa [up_ne, up_k] using v1, ⟨t, k, ?_, by simpa [up_ne, up_k] using v7⟩, by simpa [up_ne, up_k] using v8⟩
        rw [up_same, vN_nI (by omega)]
        omega
    · have hn8' : n = 8 := by omega
      subst hn8'
      have e1' : σ.1 0 0 7 = 8 := e1
      refine wX2_found 59 a0 a1 a2 σ _ ⟨fun q => ?_, fun q => ⟨_, rfl, step_of ?_⟩⟩
      · rw [e2] at q
        exact absurd q (by decide)
      · refine wX11_town 60 a0 a1 a2 σ _ ?_
        repeat' (first | with_reducible apply And.intro | intro _)
        all_goals first
          | exact hno
          | (exact absurd e1' (by assumption))
  · have hM : MT 60 mX11_town [vR 0 0, vI a0, vI a1, vI a2] σ (PostS (-1)) := by
      refine wX11_town 60 a0 a1 a2 σ _ ?_
      repeat' (first | with_reducible apply And.intro | intro _)
      all_goals first
        | exact hno
        | (exfalso; clear hno hI0 h2 h3 h4 h5 h6 h7 h8 h9 h10 h11 h12 h13 h14 e1 e2 e3; (simp only [Int32.le_iff_toInt_le, Int32.lt_iff_toInt_lt, ← Int32.toInt_inj, Int32.reduceToInt] at *; omega))
    refine wX10_town 60 a0 a1 a2 σ _ (by decide) ⟨fun q => step_of hM, fun q0 => ⟨fun q => step_of hM, fun q1 => ⟨fun q2 => absurd ⟨q0, q1, q2⟩ A, fun q => step_of hM⟩⟩⟩
theorem mway_ok (d a b : Nat) (x : Int32) (σ : HS) (Q : Option AV → HS → Prop) (hd : 1 ≤ d) (n : Nat) (hn : n ≤ 8) (e : σ.1 0 0 7 = nI n) (ha : a < n) (hb : b < n) (hab : a ≠ b) (hx : x = -1 ∨ (1 ≤ x ∧ x ≤ 200)) (h : Q (some (vI 1)) (up (up σ 15 0 (8 * a + b) x) 15 0 (8 * b + a) x)) : MT d mX11_way [vR 0 0, vI (nI a), vI (nI b), vI x] σ Q := by
  have e8 : ∀ a b : Nat, 8 * nI a + nI b = nI (8 * a + b) := fun a b => by
    rw [show (8 : Int32) = nI 8 from rfl, pk_mul, nI_add]
  have ca : 0 ≤ nI a ∧ nI a < σ.1 0 0 7 := by rw [e]; exact ⟨nI_pos' (by omega), nI_lt ha (by omega)⟩
  have cb : 0 ≤ nI b ∧ nI b < σ.1 0 0 7 := by rw [e]; exact ⟨nI_pos' (by omega), nI_lt hb (by omega)⟩
  refine wX11_way d _ _ x σ Q hd ⟨fun q => absurd ca q, fun _ => ⟨fun q => absurd cb q, fun _ => ⟨fun q => ?_, fun _ => ⟨fun q => ?_, fun _ => ⟨fun q => ?_, fun _ => ⟨fun _ => ?_, fun q => ?_⟩⟩⟩⟩⟩⟩
  · exact absurd ((nI_eq (by omega) (by omega)).mp q) hab
  · exfalso; rcases hx with hx | hx
    · rw [hx] at q; cases q
    · rw [q] at hx; exact absurd hx.1 (by decide)
  · exfalso; rcases hx with hx | hx
    · rw [hx] at q; exact absurd q (by decide)
    · clear h ca cb e; (simp only [Int32.le_iff_toInt_le, Int32.lt_iff_toInt_lt, ← Int32.toInt_inj, Int32.reduceToInt] at *; omega)
  · rw [e8, e8, nI_clamp (by omega), nI_clamp (by omega)]
    refine ⟨vp_in_nI (by omega) (by omega), ?_⟩
    rintro _ rfl
    refine ⟨vp_in_nI (by omega) (by omega), ?_⟩
    rintro _ rfl
    exact h
  · exfalso; rcases hx with hx | hx
    · rw [hx] at q; exact absurd (by decide) q
    · exact q hx.2
theorem st_way (a0 a1 a2 : Int32) : Step mX10_way mX11_way [vI a0, vI a1, vI a2] := by
  intro σ hI
  have hI0 := hI
  obtain ⟨h1, h2, h3, h4, h5, h6, h7, h8, h9, h10, h11, h12, h13, h14⟩ := hI
  obtain ⟨n, hn, e1, e2, e3⟩ := id h1
  have hno : PostS 0 (some (vI 0)) σ := ⟨rfl, hI0⟩
  have c1 : ∀ x : Int32, (0 ≤ x ∧ x ≤ σ.1 2 0 3 - 1) ↔ ∃ t, t < n ∧ x = nI t := fun x => by rw [e2]; exact tw_iff hn
  have c2 : ∀ x : Int32, (0 ≤ x ∧ x < σ.1 0 0 7) ↔ ∃ t, t < n ∧ x = nI t := fun x => by rw [e1]; exact tw_iff2 (by omega)
  by_cases A : (∃ t, t < n ∧ a0 = nI t) ∧ (∃ t, t < n ∧ a1 = nI t) ∧ ¬ a0 = a1 ∧ (a2 = -1 ∨ (1 ≤ a2 ∧ a2 ≤ 200))
  · obtain ⟨A0, A1, A2, A3⟩ := A
    have k47 : atX10_way_47 60 (fun r σ1 => ∃ x, r = some (vI x) ∧ MT 60 mX11_way [vR 0 0, vI a0, vI a1, vI a2] σ1 (fun r2 σ2 => r2 = some (vI x) ∧ Inv σ2)) σ a0 a1 a2 := by
      obtain ⟨a, ha, rfl⟩ := A0
      obtain ⟨b, hb, rfl⟩ := A1
      have hab : a ≠ b := fun e => A2 (by rw [e])
      have va : vp_in (nI a) 8 := vp_in_nI (by omega) (by omega)
      have vb : vp_in (nI b) 8 := vp_in_nI (by omega) (by omega)
      refine wX10_way_47 60 _ σ _ _ _ ⟨va, vb, ?_⟩
      rintro _ rfl
      refine ⟨vb, va, ?_⟩
      rintro _ rfl
      rw [nI_clamp (by omega), nI_clamp (by omega)]
      refine step_of (mway_ok 60 a b a2 _ _ (by decide) n hn (by simp [up_ne, e1]) ha hb hab A3 ⟨rfl, by simpa [I1, up_ne, up_k] using h1, by simpa [I2, up_ne, up_k] using h2, by simpa [I3, up_ne, up_k] using h3, ?_, by simpa [I5, up_ne, up_k] using h5, by simpa [I6, up_ne, up_k] using h6, by simpa [I7, up_ne, up_k] using h7, by simpa [I8, up_ne, up_k] using h8, by simpa [I9, up_ne, up_k] using h9, by simpa [I10, up_ne, up_k] using h10, by simpa [I11, up_ne, up_k] using h11, by simpa [I12, up_ne, up_k] using h12, by simpa [I13, up_ne, up_k] using h13, by simpa [I14, up_ne, up_k] using h14⟩)
      intro c d hc hd
      have := h4 c d hc hd
      have hx4 : a2 = -1 ∨ ∃ x, 1 ≤ x ∧ x ≤ 200 ∧ a2 = nI x := A3.imp id (fun z => (rg_iff (a := 1) (b := 200) (by omega) (by omega)).mp z)
      by_cases g1 : c = b ∧ d = a
      · obtain ⟨rfl, rfl⟩ := g1
        refine ⟨by simp [up_ne, up_k], fun z => absurd z.symm hab, fun _ => ?_⟩
        simpa [up_ne, up_k] using hx4
      · by_cases g2 : c = a ∧ d = b
        · obtain ⟨rfl, rfl⟩ := g2
          have g3 : ¬ 8 * c + d = 8 * d + c := by omega
          refine ⟨by simp [up_ne, up_k, g1, g3], fun z => absurd z hab, fun _ => ?_⟩
          simpa [up_ne, up_k, g3] using hx4
        · have g3 : ¬ 8 * c + d = 8 * b + a := by omega
          have g4 : ¬ 8 * c + d = 8 * a + b := by omega
          simpa [up_ne, up_k, g1, g2, g3, g4] using this
    refine wX10_way 60 a0 a1 a2 σ _ (by decide) ⟨fun q => absurd ((c1 _).mpr A0) q, fun _ => ⟨fun q => absurd ((c1 _).mpr A1) q, fun _ => ⟨fun _ => ⟨fun _ => k47, fun q3 => ⟨fun _ => k47, fun q4 => ?_⟩⟩, fun q => absurd q A2⟩⟩⟩
    rcases A3 with z | z
    · exact absurd z q3
    · exact absurd z q4
  · have hM : MT 60 mX11_way [vR 0 0, vI a0, vI a1, vI a2] σ (PostS 0) := by
      refine wX11_way 60 a0 a1 a2 σ _ (by decide) ⟨fun _ => hno, fun q0 => ⟨fun _ => hno, fun q1 => ⟨fun _ => hno, fun q2 => ⟨fun _ => hno, fun q3 => ⟨fun _ => hno, fun q4 => ⟨fun q5 => ?_, fun _ => hno⟩⟩⟩⟩⟩⟩
      exfalso
      refine A ⟨(c2 _).mp q0, (c2 _).mp q1, q2, ?_⟩
      clear A c1 c2 q0 q1 q2 hno hI0 h1 h2 h3 h4 h5 h6 h7 h8 h9 h10 h11 h12 h13 h14 e1 e2 e3
      (simp only [Int32.le_iff_toInt_le, Int32.lt_iff_toInt_lt, ← Int32.toInt_inj, Int32.reduceToInt] at *; omega)
    refine wX10_way 60 a0 a1 a2 σ _ (by decide) ⟨fun _ => step_of hM, fun q0 => ⟨fun _ => step_of hM, fun q1 => ⟨fun q2 => ⟨fun q3 => absurd ⟨(c1 _).mp q0, (c1 _).mp q1, q2, Or.inl q3⟩ A, fun _ => ⟨fun q3 => absurd ⟨(c1 _).mp q0, (c1 _).mp q1, q2, Or.inr q3⟩ A, fun _ => step_of hM⟩⟩, fun _ => step_of hM⟩⟩⟩
