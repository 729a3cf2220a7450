/-! the class reads the text into tokens -/
abbrev TT := Nat → Nat × Nat × Nat × Nat
def TX (σ : HS) (n : Nat) (U : Nat → Nat) : Prop := n ≤ 1000 ∧ (∀ j, j < n → BY (σ.1 58 0 j) (U j)) ∧ ∀ j, n ≤ j → U j = 0
def enT (tk : TT) (i : Nat) : Nat := (tk i).2.2.2
def CT (σ : HS) (k : Nat) (tk : TT) : Prop := σ.1 8 0 3 = nI k ∧ ∀ j, j < k → σ.1 78 0 j = nI (tk j).1 ∧ σ.1 79 0 j = nI (tk j).2.1 ∧ σ.1 80 0 j = nI (tk j).2.2.1
def TS (U : Nat → Nat) (n k : Nat) (tk : TT) : Prop := ∀ i, i < k → TK U n (st0 (enT tk) i) (tk i).1 (tk i).2.1 (tk i).2.2.1 (tk i).2.2.2 ∧ 2 ≤ (tk i).1
def FrT (σ σ2 : HS) : Prop := σ2.2 = σ.2 ∧ ∀ k, k ≠ 8 → k ≠ 78 → k ≠ 79 → k ≠ 80 → σ2.1 k = σ.1 k
theorem FrT.rf {σ : HS} : FrT σ σ := ⟨rfl, fun _ _ _ _ _ => rfl⟩
theorem FrT.tr {σ σ2 σ3 : HS} (h : FrT σ σ2) (g : FrT σ2 σ3) : FrT σ σ3 := ⟨g.1.trans h.1, fun k a b c e => (g.2 k a b c e).trans (h.2 k a b c e)⟩
theorem FrT.tx {σ σ2 : HS} {n : Nat} {U : Nat → Nat} (h : FrT σ σ2) (g : TX σ n U) : TX σ2 n U := by
  refine ⟨g.1, fun j hj => ?_, g.2.2⟩
  rw [h.2 58 (by decide) (by decide) (by decide) (by decide)]
  exact g.2.1 j hj
theorem i2b_nI : ∀ w, w < 128 → i2b (nI w) = nI w := by decide +kernel
theorem i2s_nI : ∀ w, w < 1001 → i2s (nI w) = nI w := by decide +kernel
theorem add_ok (d k w v a e : Nat) (tk : TT) (σ : HS) (Q : Option AV → HS → Prop) (hw : w < 128) (ha : a ≤ 1000) (hk : k < 1002) (hc : CT σ k tk) (h : ∀ σ2, CT σ2 (k + 1) (uF tk k (w, v, a, e)) → FrT σ σ2 → Q none σ2) : MT d mX8_add [vR 8 0, vI (nI w), vI (nI v), vI (nI a)] σ Q := by
  have vk : vp_in (nI k) 1002 := vp_in_nI hk (by omega)
  refine wX8_add d _ _ _ σ Q ⟨fun z => ?_, fun _ => ?_⟩
  · rw [hc.1] at z
    exact absurd z (nI_ge (a := k) (b := 1002) hk (by omega))
  rw [hc.1]
  refine ⟨vk, ?_⟩
  rintro _ rfl
  rw [up_ne (show (8 : Nat) ≠ 78 by decide), hc.1]
  refine ⟨vk, ?_⟩
  rintro _ rfl
  rw [up_ne (show (8 : Nat) ≠ 79 by decide), up_ne (show (8 : Nat) ≠ 78 by decide), hc.1]
  refine ⟨vk, ?_⟩
  rintro _ rfl _ rfl
  rw [up_ne (show (8 : Nat) ≠ 80 by decide), up_ne (show (8 : Nat) ≠ 79 by decide), up_ne (show (8 : Nat) ≠ 78 by decide), hc.1, nI_1, nI_clamp (by omega), i2b_nI w hw, i2b_nI w hw, i2s_nI a (by omega), i2s_nI a (by omega)]
  refine h _ ⟨up_same, fun j hj => ?_⟩ ⟨rfl, fun k' a1 a2 a3 a4 => by rw [up_ne a1, up_ne a4, up_ne a3, up_ne a2]⟩
  by_cases z : j = k
  · subst z
    rw [uF_s]
    simp [up_ne, up_k]
  · rw [uF_n z]
    have := hc.2 j (by omega)
    simp [up_ne, up_k, z]
    exact this
def PAo (Q : Option AV → HS → Prop) (σ : HS) (U : Nat → Nat) (n k a : Nat) (tk : TT) : Prop := ∀ w v e σ2, TB U a w v e → 1 ≤ w → (2 ≤ w → e ≤ n) → CT σ2 (k + 1) (uF tk k (w, v, a, e)) → FrT σ σ2 → Q (some (vI (nI (if w = 1 then n else e)))) σ2
theorem BY.isD {x : Int32} {u : Nat} (h : BY x u) : (48 ≤ x ∧ x ≤ 57) ↔ isD u := h.rg (a := 48) (b := 57) (by omega) (by omega) (by omega)
theorem BY.isL {x : Int32} {u : Nat} (h : BY x u) : (97 ≤ x ∧ x ≤ 122) ↔ isL u := h.rg (a := 97) (b := 122) (by omega) (by omega) (by omega)
theorem BY.val {x : Int32} {u : Nat} (h : BY x u) (hu : u < 128) : x = nI u := (h.eqI hu).mpr rfl
theorem not_isD0 : ¬ isD 0 := by unfold isD; omega
theorem not_isL0 : ¬ isL 0 := by unfold isL; omega
theorem addNum_ok (d : Nat) (σ : HS) (n a k : Nat) (U : Nat → Nat) (tk : TT) (Q : Option AV → HS → Prop) (hd : 2 ≤ d) (hx : TX σ n U) (ha : a < n) (hD : isD (U a)) (hk : k ≤ 1000) (hc : CT σ k tk) (h : PAo Q σ U n k a tk) : MT d mX8_addNumber [vR 8 0, vR 58 0, vI (nI a), vI (nI n)] σ Q := by
  obtain ⟨hn, hB, hU⟩ := hx
  have fin : ∀ m, a + m ≤ n → (∀ j, j < m → isD (U (a + j))) → ¬ isD (U (a + m)) → atX8_addNumber_43 d Q σ (nI a) (nI n) (nI (nmF U a m)) (nI (a + m)) := by
    intro m hm hj hnd
    have run : RUN U isD a (a + m) := ⟨by omega, fun j h1 h2 => by have := hj (j - a) (by omega); rwa [show a + (j - a) = j by omega] at this, hnd⟩
    have em : a + m - a = m := by omega
    have esub : nI (a + m) - nI a = nI m := by rw [pk_sub (by omega), em]
    have g0 : ∀ s0 : Int32, (s0 = 0 ∧ ¬ isL (U (a + m))) ∨ (s0 = 1 ∧ isL (U (a + m))) → atX8_addNumber_64 d Q σ (nI a) (nI n) (nI (nmF U a m)) (nI (a + m)) s0 := by
      intro s0 hs
      have bad : (6 < m ∨ isL (U (a + m))) → MT (d - 1) mX8_add [vR 8 0, vI 1, vI 0, vI (nI a)] σ (fun r σ_26 => r = none ∧ Q (some (vI (nI n))) σ_26) := fun hb => add_ok (d - 1) k 1 0 a (a + m) tk σ _ (by omega) (by omega) (by omega) hc (fun σ2 c2 f2 => ⟨rfl, by
        have := h 1 0 (a + m) σ2 (Or.inr (Or.inr (Or.inl ⟨hD, run, by rw [em]; exact hb, rfl⟩))) (by omega) (by omega) c2 f2
        rwa [if_pos rfl] at this⟩)
      refine wX8_addNumber_64 d Q σ _ _ _ _ _ (by omega) ⟨fun z => ?_, fun z => ⟨fun y => ?_, fun y => ?_⟩⟩
      · rw [esub] at z
        exact bad (Or.inl ((nI_ltI (a := 6) (by omega) (by omega)).mp z))
      · rw [esub] at z
        have z' := Nat.le_of_not_lt (fun x => z (nI_lt (a := 6) x (by omega)))
        have hl : ¬ isL (U (a + m)) := hs.elim (fun x => x.2) (fun x => absurd (x.1.symm.trans y) (by decide))
        refine add_ok (d - 1) k 2 (nmF U a m) a (a + m) tk σ _ (by omega) (by omega) (by omega) hc (fun σ2 c2 f2 => ⟨rfl, ?_⟩)
        have := h 2 (nmF U a m) (a + m) σ2 (Or.inr (Or.inl ⟨hD, run, by omega, hl, rfl, by rw [em]⟩)) (by omega) (by omega) c2 f2
        rwa [if_neg (by omega)] at this
      · exact bad (Or.inr (hs.elim (fun x => absurd x.1 y) (fun x => x.2)))
    refine wX8_addNumber_43 d Q σ _ _ _ _ (by omega) ⟨fun z => ?_, fun z => ?_⟩
    · have z' := (nI_leI (by omega) (by omega)).mp z
      exact wX8_addNumber_63 d Q σ _ _ _ _ (g0 0 (Or.inl ⟨rfl, by rw [hU _ z']; exact not_isL0⟩))
    · have z' := Nat.lt_of_not_le (fun x => z (nI_le x (by omega)))
      refine ⟨vp_in_nI (by omega) (by omega), ?_⟩
      rw [nI_clamp (by omega), (hB (a + m) z').isL]
      exact ⟨fun y => wX8_addNumber_63 d Q σ _ _ _ _ (g0 0 (Or.inl ⟨rfl, y⟩)), fun y => g0 1 (Or.inr ⟨rfl, y⟩)⟩
  have key : ∀ f m, a + m + f = n → (∀ j, j < m → isD (U (a + j))) → atX8_addNumber_6 d Q σ (nI a) (nI n) (nI (nmF U a m)) (nI (a + m)) := by
    intro f
    induction f with
    | zero =>
      intro m hm hj
      exact wX8_addNumber_6 d Q σ _ _ _ _ (by omega) ⟨fun _ => fin m (by omega) hj (by rw [hU _ (by omega)]; exact not_isD0), fun z => absurd (nI_le (by omega) (by omega)) z⟩
    | succ f ih =>
      intro m hm hj
      have hb := hB (a + m) (by omega)
      have vm : vp_in (nI (a + m)) 1000 := vp_in_nI (by omega) (by omega)
      refine wX8_addNumber_6 d Q σ _ _ _ _ (by omega) ⟨fun z => absurd z (nI_ge (by omega) (by omega)), fun _ => ⟨vm, ?_⟩⟩
      rw [nI_clamp (by omega), hb.isD]
      refine ⟨fun z => fin m (by omega) hj z, fun z => ⟨vm, ?_⟩⟩
      have hu : 48 ≤ U (a + m) ∧ U (a + m) ≤ 57 := z
      rintro _ rfl _ rfl
      rw [hb.val (by omega), show (10 : Int32) = nI 10 from rfl, pk_mul, nI_add, show (48 : Int32) = nI 48 from rfl, pk_sub (by omega), nI_1]
      have e : nmF U a m * 10 + U (a + m) - 48 = nmF U a (m + 1) := by simp only [nmF]; omega
      rw [e]
      refine ih (m + 1) (by omega) (fun j h1 => ?_)
      by_cases y : j = m
      · rw [y]; exact z
      · exact hj j (by omega)
  exact wX8_addNumber d _ _ σ Q (key (n - a) 0 (by omega) (fun j hj => absurd hj (Nat.not_lt_zero j)))
theorem isTown_ok (d : Nat) (σ : HS) (n a : Nat) (U : Nat → Nat) (Q : Option AV → HS → Prop) (hd : 2 ≤ d) (hx : TX σ n U) (ha : a < n) (h1 : twn U a → Q (some (vI 1)) σ) (h0 : ¬ twn U a → Q (some (vI 0)) σ) : MT d mX8_isTownName [vR 58 0, vI (nI a), vI (nI n)] σ Q := by
  obtain ⟨hn, hB, hU⟩ := hx
  have e1 : nI a + 1 = nI (a + 1) := nI_1 a
  have e2 : nI a + 2 = nI (a + 2) := nI_add a 2
  refine wX8_isTownName d _ _ σ Q hd ⟨vp_in_nI (by omega) (by omega), ?_⟩
  rw [e1, e2, nI_clamp (n := a) (by omega), nI_clamp (n := a + 1) (by omega), nI_clamp (n := a + 2) (by omega)]
  have q0 := (hB a ha).eqI (c := 116) (by omega)
  refine ⟨fun z => h0 (fun t => z (q0.mpr t.1)), fun z => ⟨fun y => ?_, fun y => ?_⟩⟩
  · have y' := (nI_leI (by omega) (by omega)).mp y
    refine h0 (fun t => ?_)
    have := t.2.1
    rw [hU _ y'] at this
    omega
  · have y' := Nat.lt_of_not_le (fun x => y (nI_le x (by omega)))
    refine ⟨vp_in_nI (by omega) (by omega), fun x => ?_, fun x => h0 (fun t => x (((hB (a + 1) y').rg (a := 48) (b := 55) (by omega) (by omega) (by omega)).mpr t.2.1))⟩
    have x' := ((hB (a + 1) y').rg (a := 48) (b := 55) (by omega) (by omega) (by omega)).mp x
    refine ⟨fun v => h1 ⟨q0.mp z, x', ?_, ?_⟩, fun v => ?_⟩
    · rw [hU _ ((nI_leI (by omega) (by omega)).mp v)]; exact not_isL0
    · rw [hU _ ((nI_leI (by omega) (by omega)).mp v)]; exact not_isD0
    · have v' := Nat.lt_of_not_le (fun x => v (nI_le x (by omega)))
      have v2 : vp_in (nI (a + 2)) 1000 := vp_in_nI (by omega) (by omega)
      rw [(hB (a + 2) v').isL, (hB (a + 2) v').isD]
      exact ⟨v2, fun s => h0 (fun t => t.2.2.1 s), fun s => ⟨v2, fun r => h0 (fun t => t.2.2.2 r), fun r => h1 ⟨q0.mp z, x', s, r⟩⟩⟩
theorem sp_ok (d i f s : Nat) (σ : HS) (U : Nat → Nat) (Q : Option AV → HS → Prop) (hd : 4 ≤ d) (hi : i < 15) (hf : f ≤ s) (hs : s ≤ 1000) (hU : ∀ j, f ≤ j → j < s → BY (σ.1 58 0 j) (U j)) (hL : ∀ j, f ≤ j → j < s → isL (U j)) (h1 : pkF (fun j => U (f + j)) (s - f) = WC i → Q (some (vI 1)) σ) (h0 : ¬ pkF (fun j => U (f + j)) (s - f) = WC i → Q (some (vI 0)) σ) : MT d mX8_spells [vR 105 i, vR 58 0, vI (nI f), vI (nI s)] σ Q := by
  refine spells_ok d i f s σ Q hd hi hf hs ?_
  by_cases z : SpB σ i f s = true
  · rw [bI_t z]
    exact h1 ((SpB_iff hi hU hL hf).mp z)
  · rw [bI_f z]
    exact h0 (fun y => z ((SpB_iff hi hU hL hf).mpr y))
theorem kindOf_ok (d f s : Nat) (σ : HS) (U : Nat → Nat) (Q : Option AV → HS → Prop) (hd : 5 ≤ d) (hf : f ≤ s) (hs : s ≤ 1000) (hU : ∀ j, f ≤ j → j < s → BY (σ.1 58 0 j) (U j)) (hL : ∀ j, f ≤ j → j < s → isL (U j)) (x : Nat) (hx : pkF (fun j => U (f + j)) (s - f) = x)
    (h0 : x = WC 0 → Q (some (vI 0)) σ) (h1 : x = WC 1 → Q (some (vI 1)) σ) (h2 : x = WC 2 → Q (some (vI 2)) σ) (h3 : x ≠ WC 0 → x ≠ WC 1 → x ≠ WC 2 → Q (some (vI (-1))) σ) : MT d mX8_kindOf [vR 58 0, vI (nI f), vI (nI s)] σ Q := by
  have sp := fun i hi Q => sp_ok (d - 1) i f s σ U Q (by omega) hi hf hs hU hL
  rw [hx] at sp
  refine wX8_kindOf d _ _ σ Q (by omega) (sp 0 (by omega) _ (fun z => ⟨_, rfl, fun y => absurd y (by decide), fun _ => h0 z⟩) (fun z0 => ⟨_, rfl, fun _ => ?_, fun y => absurd rfl y⟩))
  refine sp 1 (by omega) _ (fun z => ⟨_, rfl, fun y => absurd y (by decide), fun _ => h1 z⟩) (fun z1 => ⟨_, rfl, fun _ => ?_, fun y => absurd rfl y⟩)
  exact sp 2 (by omega) _ (fun z => ⟨_, rfl, fun y => absurd y (by decide), fun _ => h2 z⟩) (fun z2 => ⟨_, rfl, fun _ => h3 z0 z1 z2, fun y => absurd rfl y⟩)
theorem wordOf_ok (d f s : Nat) (σ : HS) (U : Nat → Nat) (Q : Option AV → HS → Prop) (hd : 5 ≤ d) (hf : f ≤ s) (hs : s ≤ 1000) (hU : ∀ j, f ≤ j → j < s → BY (σ.1 58 0 j) (U j)) (hL : ∀ j, f ≤ j → j < s → isL (U j)) (x : Nat) (hx : pkF (fun j => U (f + j)) (s - f) = x)
    (h3 : x = WC 3 → Q (some (vI 6)) σ) (h4 : x = WC 4 → Q (some (vI 7)) σ) (h5 : x = WC 5 → Q (some (vI 8)) σ) (h6 : x = WC 6 → Q (some (vI 9)) σ) (h7 : x = WC 7 → Q (some (vI 10)) σ) (h8 : x = WC 8 → Q (some (vI 11)) σ) (h9 : x = WC 9 → Q (some (vI 12)) σ) (h10 : x = WC 10 → Q (some (vI 13)) σ) (h11 : x = WC 11 → Q (some (vI 14)) σ) (h12 : x = WC 12 → Q (some (vI 15)) σ) (h13 : x = WC 13 → Q (some (vI 16)) σ) (h14 : x = WC 14 → Q (some (vI 17)) σ) (hz : x ≠ WC 3 → x ≠ WC 4 → x ≠ WC 5 → x ≠ WC 6 → x ≠ WC 7 → x ≠ WC 8 → x ≠ WC 9 → x ≠ WC 10 → x ≠ WC 11 → x ≠ WC 12 → x ≠ WC 13 → x ≠ WC 14 → Q (some (vI 5)) σ) : MT d mX8_wordOf [vR 58 0, vI (nI f), vI (nI s)] σ Q := by
  have sp := fun i hi Q => sp_ok (d - 1) i f s σ U Q (by omega) hi hf hs hU hL
  rw [hx] at sp
  refine wX8_wordOf d _ _ σ Q (by omega) (sp 3 (by omega) _ (fun z => ⟨_, rfl, fun y => absurd y (by decide), fun _ => h3 z⟩) (fun z3 => ⟨_, rfl, fun _ => ?_, fun y => absurd rfl y⟩))
  refine sp 4 (by omega) _ (fun z => ⟨_, rfl, fun y => absurd y (by decide), fun _ => h4 z⟩) (fun z4 => ⟨_, rfl, fun _ => ?_, fun y => absurd rfl y⟩)
  refine sp 5 (by omega) _ (fun z => ⟨_, rfl, fun y => absurd y (by decide), fun _ => h5 z⟩) (fun z5 => ⟨_, rfl, fun _ => ?_, fun y => absurd rfl y⟩)
  refine sp 6 (by omega) _ (fun z => ⟨_, rfl, fun y => absurd y (by decide), fun _ => h6 z⟩) (fun z6 => ⟨_, rfl, fun _ => ?_, fun y => absurd rfl y⟩)
  refine sp 7 (by omega) _ (fun z => ⟨_, rfl, fun y => absurd y (by decide), fun _ => h7 z⟩) (fun z7 => ⟨_, rfl, fun _ => ?_, fun y => absurd rfl y⟩)
  refine sp 8 (by omega) _ (fun z => ⟨_, rfl, fun y => absurd y (by decide), fun _ => h8 z⟩) (fun z8 => ⟨_, rfl, fun _ => ?_, fun y => absurd rfl y⟩)
  refine sp 9 (by omega) _ (fun z => ⟨_, rfl, fun y => absurd y (by decide), fun _ => h9 z⟩) (fun z9 => ⟨_, rfl, fun _ => ?_, fun y => absurd rfl y⟩)
  refine sp 10 (by omega) _ (fun z => ⟨_, rfl, fun y => absurd y (by decide), fun _ => h10 z⟩) (fun z10 => ⟨_, rfl, fun _ => ?_, fun y => absurd rfl y⟩)
  refine sp 11 (by omega) _ (fun z => ⟨_, rfl, fun y => absurd y (by decide), fun _ => h11 z⟩) (fun z11 => ⟨_, rfl, fun _ => ?_, fun y => absurd rfl y⟩)
  refine sp 12 (by omega) _ (fun z => ⟨_, rfl, fun y => absurd y (by decide), fun _ => h12 z⟩) (fun z12 => ⟨_, rfl, fun _ => ?_, fun y => absurd rfl y⟩)
  refine sp 13 (by omega) _ (fun z => ⟨_, rfl, fun y => absurd y (by decide), fun _ => h13 z⟩) (fun z13 => ⟨_, rfl, fun _ => ?_, fun y => absurd rfl y⟩)
  exact sp 14 (by omega) _ (fun z => ⟨_, rfl, fun y => absurd y (by decide), fun _ => h14 z⟩) (fun z14 => ⟨_, rfl, fun _ => hz z3 z4 z5 z6 z7 z8 z9 z10 z11 z12 z13 z14, fun y => absurd rfl y⟩)
theorem wcP_20 {x : Nat} (h : x = WC 0) : wcP x = (4, 0) := by
  rw [h]
  decide +kernel
theorem wcP_21 {x : Nat} (h : x = WC 1) : wcP x = (4, 1) := by
  rw [h]
  decide +kernel
theorem wcP_22 {x : Nat} (h : x = WC 2) : wcP x = (4, 2) := by
  rw [h]
  decide +kernel
theorem wcP_23 {x : Nat} (h : x = WC 3) : wcP x = (6, 0) := by
  rw [h]
  decide +kernel
theorem wcP_24 {x : Nat} (h : x = WC 4) : wcP x = (7, 0) := by
  rw [h]
  decide +kernel
theorem wcP_25 {x : Nat} (h : x = WC 5) : wcP x = (8, 0) := by
  rw [h]
  decide +kernel
theorem wcP_26 {x : Nat} (h : x = WC 6) : wcP x = (9, 0) := by
  rw [h]
  decide +kernel
theorem wcP_27 {x : Nat} (h : x = WC 7) : wcP x = (10, 0) := by
  rw [h]
  decide +kernel
theorem wcP_28 {x : Nat} (h : x = WC 8) : wcP x = (11, 0) := by
  rw [h]
  decide +kernel
theorem wcP_29 {x : Nat} (h : x = WC 9) : wcP x = (12, 0) := by
  rw [h]
  decide +kernel
theorem wcP_30 {x : Nat} (h : x = WC 10) : wcP x = (13, 0) := by
  rw [h]
  decide +kernel
theorem wcP_31 {x : Nat} (h : x = WC 11) : wcP x = (14, 0) := by
  rw [h]
  decide +kernel
theorem wcP_32 {x : Nat} (h : x = WC 12) : wcP x = (15, 0) := by
  rw [h]
  decide +kernel
theorem wcP_33 {x : Nat} (h : x = WC 13) : wcP x = (16, 0) := by
  rw [h]
  decide +kernel
theorem wcP_34 {x : Nat} (h : x = WC 14) : wcP x = (17, 0) := by
  rw [h]
  decide +kernel
theorem wcP_no {x : Nat} (n0 : x ≠ WC 0) (n1 : x ≠ WC 1) (n2 : x ≠ WC 2) (n3 : x ≠ WC 3) (n4 : x ≠ WC 4) (n5 : x ≠ WC 5) (n6 : x ≠ WC 6) (n7 : x ≠ WC 7) (n8 : x ≠ WC 8) (n9 : x ≠ WC 9) (n10 : x ≠ WC 10) (n11 : x ≠ WC 11) (n12 : x ≠ WC 12) (n13 : x ≠ WC 13) (n14 : x ≠ WC 14) : wcP x = (5, 0) := by
  obtain ⟨e0, e1, e2, e3, e4, e5, e6, e7, e8, e9, e10, e11, e12, e13, e14⟩ := WC_all
  unfold wcP
  rw [if_neg (e0 ▸ n0), if_neg (e1 ▸ n1), if_neg (e2 ▸ n2), if_neg (e3 ▸ n3), if_neg (e4 ▸ n4), if_neg (e5 ▸ n5), if_neg (e6 ▸ n6), if_neg (e7 ▸ n7), if_neg (e8 ▸ n8), if_neg (e9 ▸ n9), if_neg (e10 ▸ n10), if_neg (e11 ▸ n11), if_neg (e12 ▸ n12), if_neg (e13 ▸ n13), if_neg (e14 ▸ n14)]
theorem addName_ok (d : Nat) (σ : HS) (n a k : Nat) (U : Nat → Nat) (tk : TT) (Q : Option AV → HS → Prop) (hd : 6 ≤ d) (hx : TX σ n U) (ha : a < n) (hD : isL (U a)) (hk : k ≤ 1000) (hc : CT σ k tk) (h : PAo Q σ U n k a tk) : MT d mX8_addName [vR 8 0, vR 58 0, vI (nI a), vI (nI n)] σ Q := by
  obtain ⟨hn, hB, hU⟩ := id hx
  refine wX8_addName d _ _ σ Q (by omega) (isTown_ok (d - 1) σ n a U _ (by omega) hx ha (fun t => ⟨_, rfl, fun y => absurd y (by decide), fun _ => ?_⟩) (fun t => ⟨_, rfl, fun _ => ?_, fun y => absurd rfl y⟩))
  · have ha1 : a + 1 < n := Nat.lt_of_not_le (fun z => by have := t.2.1; rw [hU _ z] at this; omega)
    have ht := t.2.1
    have e2 : nI a + 2 = nI (a + 2) := nI_add a 2
    refine ⟨by rw [nI_1]; exact vp_in_nI (by omega) (by omega), ?_⟩
    rw [nI_1, nI_clamp (by omega), (hB (a + 1) ha1).val (by omega), show (48 : Int32) = nI 48 from rfl, pk_sub (by omega), e2]
    refine add_ok (d - 1) k 3 (U (a + 1) - 48) a (a + 2) tk σ _ (by omega) (by omega) (by omega) hc (fun σ2 c2 f2 => ⟨rfl, ?_⟩)
    have := h 3 (U (a + 1) - 48) (a + 2) σ2 (Or.inr (Or.inr (Or.inr (Or.inl ⟨t, rfl, rfl, rfl⟩)))) (by omega) (fun _ => by omega) c2 f2
    rwa [if_neg (by omega)] at this
  · have fin : ∀ m, a + m ≤ n → (∀ j, j < m → isL (U (a + j))) → ¬ isL (U (a + m)) → atX8_addName_52 d Q σ (nI a) (nI n) (nI (a + m)) := by
      intro m hm hj hnd
      have hj2 : ∀ j, a ≤ j → j < a + m → isL (U j) := fun j h1 h2 => by have := hj (j - a) (by omega); rwa [show a + (j - a) = j by omega] at this
      have run : RUN U isL a (a + m) := ⟨by omega, hj2, hnd⟩
      have em : a + m - a = m := by omega
      have esub : nI (a + m) - nI a = nI m := by rw [pk_sub (by omega), em]
      have hU2 : ∀ j, a ≤ j → j < a + m → BY (σ.1 58 0 j) (U j) := fun j h1 h2 => hB j (by omega)
      refine wX8_addName_52 d Q σ _ _ _ (by omega) ⟨fun z => ?_, fun z => ?_⟩
      · rw [esub] at z
        have z' := (nI_leI (b := 8) (by omega) (by omega)).mp z
        have wd : ∀ w v σ2, (w, v) = wcP (pkF (fun j => U (a + j)) m) → CT σ2 (k + 1) (uF tk k (w, v, a, a + m)) → FrT σ σ2 → Q (some (vI (nI (a + m)))) σ2 := by
          intro w v σ2 hw c2 f2
          have h4 := wcP_2 (pkF (fun j => U (a + j)) m)
          rw [← hw] at h4
          have h5 : 4 ≤ w := h4.1
          have := h w v (a + m) σ2 (Or.inr (Or.inr (Or.inr (Or.inr (Or.inl ⟨hD, t, run, by omega, by rw [em]; exact hw⟩))))) (by omega) (fun _ => hm) c2 f2
          rwa [if_neg (by omega)] at this
        have aw : ∀ w : Nat, w < 128 → (w, 0) = wcP (pkF (fun j => U (a + j)) m) → MT (d - 1) mX8_add [vR 8 0, vI (nI w), vI 0, vI (nI a)] σ (fun r σ_33 => r = none ∧ Q (some (vI (nI (a + m)))) σ_33) := fun w hw hwc => add_ok (d - 1) k w 0 a (a + m) tk σ _ hw (by omega) (by omega) hc (fun σ2 c2 f2 => ⟨rfl, wd w 0 σ2 hwc c2 f2⟩)
        have ak : ∀ v : Nat, (4, v) = wcP (pkF (fun j => U (a + j)) m) → MT (d - 1) mX8_add [vR 8 0, vI 4, vI (nI v), vI (nI a)] σ (fun r σ_33 => r = none ∧ Q (some (vI (nI (a + m)))) σ_33) := fun v hwc => add_ok (d - 1) k 4 v a (a + m) tk σ _ (by omega) (by omega) (by omega) hc (fun σ2 c2 f2 => ⟨rfl, wd 4 v σ2 hwc c2 f2⟩)
        refine kindOf_ok (d - 1) a (a + m) σ U _ (by omega) (by omega) (by omega) hU2 hj2 _ rfl (fun e => ⟨_, rfl, fun y => absurd y (by decide), fun _ => ?_⟩) (fun e => ⟨_, rfl, fun y => absurd y (by decide), fun _ => ?_⟩) (fun e => ⟨_, rfl, fun y => absurd y (by decide), fun _ => ?_⟩) (fun n0 n1 n2 => ⟨_, rfl, fun _ => ?_, fun y => absurd rfl y⟩)
        · exact ak 0 (by rw [em] at e; rw [wcP_20 e])
        · exact ak 1 (by rw [em] at e; rw [wcP_21 e])
        · exact ak 2 (by rw [em] at e; rw [wcP_22 e])
        · rw [em] at n0 n1 n2
          refine wordOf_ok (d - 1) a (a + m) σ U _ (by omega) (by omega) (by omega) hU2 hj2 _ (by rw [em]) (fun e => ⟨_, rfl, aw 6 (by omega) (by rw [wcP_23 e])⟩) (fun e => ⟨_, rfl, aw 7 (by omega) (by rw [wcP_24 e])⟩) (fun e => ⟨_, rfl, aw 8 (by omega) (by rw [wcP_25 e])⟩) (fun e => ⟨_, rfl, aw 9 (by omega) (by rw [wcP_26 e])⟩) (fun e => ⟨_, rfl, aw 10 (by omega) (by rw [wcP_27 e])⟩) (fun e => ⟨_, rfl, aw 11 (by omega) (by rw [wcP_28 e])⟩) (fun e => ⟨_, rfl, aw 12 (by omega) (by rw [wcP_29 e])⟩) (fun e => ⟨_, rfl, aw 13 (by omega) (by rw [wcP_30 e])⟩) (fun e => ⟨_, rfl, aw 14 (by omega) (by rw [wcP_31 e])⟩) (fun e => ⟨_, rfl, aw 15 (by omega) (by rw [wcP_32 e])⟩) (fun e => ⟨_, rfl, aw 16 (by omega) (by rw [wcP_33 e])⟩) (fun e => ⟨_, rfl, aw 17 (by omega) (by rw [wcP_34 e])⟩) (fun n3 n4 n5 n6 n7 n8 n9 n10 n11 n12 n13 n14 => ⟨_, rfl, aw 5 (by omega) (by rw [wcP_no n0 n1 n2 n3 n4 n5 n6 n7 n8 n9 n10 n11 n12 n13 n14])⟩)
      · rw [esub] at z
        have z' : 8 < m := Nat.lt_of_not_le (fun y => z (nI_le (b := 8) y (by omega)))
        refine add_ok (d - 1) k 1 0 a (a + m) tk σ _ (by omega) (by omega) (by omega) hc (fun σ2 c2 f2 => ⟨rfl, ?_⟩)
        have := h 1 0 (a + m) σ2 (Or.inr (Or.inr (Or.inr (Or.inr (Or.inr (Or.inl ⟨hD, t, run, by omega, rfl⟩)))))) (by omega) (by omega) c2 f2
        rwa [if_pos rfl] at this
    have key : ∀ f m, a + m + f = n → (∀ j, j < m → isL (U (a + j))) → atX8_addName_30 d Q σ (nI a) (nI n) (nI (a + m)) := by
      intro f
      induction f with
      | zero =>
        intro m hm hj
        exact wX8_addName_30 d Q σ _ _ _ (by omega) ⟨fun _ => fin m (by omega) hj (by rw [hU _ (by omega)]; exact not_isL0), fun z => absurd (nI_le (by omega) (by omega)) z⟩
      | succ f ih =>
        intro m hm hj
        have hb := hB (a + m) (by omega)
        have vm : vp_in (nI (a + m)) 1000 := vp_in_nI (by omega) (by omega)
        refine wX8_addName_30 d Q σ _ _ _ (by omega) ⟨fun z => absurd z (nI_ge (by omega) (by omega)), fun _ => ⟨vm, ?_⟩⟩
        rw [nI_clamp (by omega), hb.isL]
        refine ⟨fun z => fin m (by omega) hj z, fun z => ?_⟩
        rintro _ rfl
        rw [nI_1]
        refine ih (m + 1) (by omega) (fun j h1 => ?_)
        by_cases y : j = m
        · rw [y]; exact z
        · exact hj j (by omega)
    exact key (n - a) 0 (by omega) (fun j hj => absurd hj (Nat.not_lt_zero j))
