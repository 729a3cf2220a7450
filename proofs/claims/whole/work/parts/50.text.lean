/-! bytes of a text, and words packed into a number -/
def BY (x : Int32) (u : Nat) : Prop := u < 256 ∧ x &&& 255 = nI u ∧ (x.toInt = u ∨ x.toInt = (u : Int) - 256) ∧ (u < 128 → x.toInt = u) ∧ (128 ≤ u → x.toInt = (u : Int) - 256)
theorem BY.of {x : Int32} (h : i2b x = x) : ∃ u, BY x u := by
  have h1 : x.toInt8.toInt32.toInt = x.toInt := by
    have : x.toInt8.toInt32 = x := h
    rw [this]
  rw [Int8.toInt_toInt32] at h1
  have h2 := Int8.le_toInt x.toInt8
  have h3 := Int8.toInt_lt x.toInt8
  rw [h1] at h2 h3
  have hx : x.toInt = (x.toBitVec.toNat : Int) ∨ x.toInt = (x.toBitVec.toNat : Int) - 2 ^ 32 := by
    have := BitVec.toInt_eq_toNat_cond x.toBitVec
    have e : x.toInt = x.toBitVec.toInt := rfl
    rw [e, this]
    by_cases c : 2 * x.toBitVec.toNat < 2 ^ 32
    · rw [if_pos c]; exact Or.inl rfl
    · rw [if_neg c]; exact Or.inr rfl
  have hl : x.toBitVec.toNat < 2 ^ 32 := x.toBitVec.isLt
  refine ⟨x.toBitVec.toNat % 2 ^ 8, by omega, pk_and x 8 (by decide), ?_, fun _ => ?_, fun _ => ?_⟩
  · rcases hx with e | e
    · omega
    · omega
  · rcases hx with e | e <;> omega
  · rcases hx with e | e <;> omega
theorem BY.eqI {x : Int32} {u c : Nat} (h : BY x u) (hc : c < 128) : x = nI c ↔ u = c := by
  obtain ⟨h1, h2, h3, h4, h5⟩ := h
  have e : (nI c).toInt = (c : Int) := nI_toInt (by omega)
  rw [← Int32.toInt_inj, e]
  constructor
  · intro h
    rcases Nat.lt_or_ge u 128 with a | a
    · have := h4 a; omega
    · have := h5 a; omega
  · intro h
    have := h4 (by omega)
    omega
theorem BY.rg {x : Int32} {u a b : Nat} (h : BY x u) (ha : 1 ≤ a) (hab : a < 128) (hb : b < 128) : (nI a ≤ x ∧ x ≤ nI b) ↔ (a ≤ u ∧ u ≤ b) := by
  obtain ⟨h1, h2, h3, h4, h5⟩ := h
  have e : (nI b).toInt = (b : Int) := nI_toInt (by omega)
  have ea : (nI a).toInt = (a : Int) := nI_toInt (by omega)
  rw [Int32.le_iff_toInt_le, Int32.le_iff_toInt_le, e, ea]
  rcases Nat.lt_or_ge u 128 with z | z
  · have := h4 z; omega
  · have := h5 z; omega
def isL (u : Nat) : Prop := 97 ≤ u ∧ u ≤ 122
def isD (u : Nat) : Prop := 48 ≤ u ∧ u ≤ 57
def isB (u : Nat) : Prop := u = 32 ∨ u = 10
def isS (u : Nat) : Prop := u = 59 ∨ u = 40 ∨ u = 41 ∨ u = 60 ∨ u = 62 ∨ u = 61 ∨ u = 43 ∨ u = 45
def pkF (g : Nat → Nat) : Nat → Nat
  | 0 => 0
  | m + 1 => pkF g m * 256 + g m
theorem pkF_inj {g g2 : Nat → Nat} : ∀ (m m2 : Nat), (∀ j, j < m → 1 ≤ g j ∧ g j < 256) → (∀ j, j < m2 → 1 ≤ g2 j ∧ g2 j < 256) → pkF g m = pkF g2 m2 → m = m2 ∧ ∀ j, j < m → g j = g2 j
  | 0, 0, _, _, _ => ⟨rfl, fun _ h => absurd h (Nat.not_lt_zero _)⟩
  | 0, m2 + 1, _, h2, e => by
    have := h2 m2 (by omega)
    simp only [pkF] at e
    omega
  | m + 1, 0, h1, _, e => by
    have := h1 m (by omega)
    simp only [pkF] at e
    omega
  | m + 1, m2 + 1, h1, h2, e => by
    have a1 := h1 m (by omega)
    have a2 := h2 m2 (by omega)
    simp only [pkF] at e
    have e1 : pkF g m = pkF g2 m2 := by omega
    have e2 : g m = g2 m2 := by omega
    obtain ⟨r1, r2⟩ := pkF_inj m m2 (fun j hj => h1 j (by omega)) (fun j hj => h2 j (by omega)) e1
    subst r1
    refine ⟨rfl, fun j hj => ?_⟩
    by_cases z : j = m
    · rw [z, e2]
    · exact r2 j (by omega)
theorem pkF_cong {g g2 : Nat → Nat} : ∀ {m : Nat}, (∀ j, j < m → g j = g2 j) → pkF g m = pkF g2 m
  | 0, _ => rfl
  | m + 1, h => by
    simp only [pkF]
    rw [pkF_cong (m := m) (fun j hj => h j (by omega)), h m (by omega)]
theorem pkF_lt {g : Nat → Nat} : ∀ {m : Nat}, (∀ j, j < m → g j < 256) → pkF g m < 256 ^ m
  | 0, _ => Nat.one_pos
  | m + 1, h => by
    have h1 := pkF_lt (m := m) (fun j hj => h j (by omega))
    have h2 := h m (by omega)
    simp only [pkF, Nat.pow_succ]
    omega
/-- the strings, as numbers -/
def WC (i : Nat) : Nat := pkF (fun j => vN (sch i j)) (stLen.getD i 0)
theorem sch_rg : ∀ i, i < 15 → ∀ j, j < stLen.getD i 0 → 97 ≤ vN (sch i j) ∧ vN (sch i j) ≤ 122 ∧ sch i j = nI (vN (sch i j)) := by decide +kernel
theorem SpB_iff {σ : HS} {U : Nat → Nat} {i f s : Nat} (hi : i < 15) (hU : ∀ j, f ≤ j → j < s → BY (σ.1 58 0 j) (U j)) (hL : ∀ j, f ≤ j → j < s → isL (U j)) (hfs : f ≤ s) : SpB σ i f s = true ↔ pkF (fun j => U (f + j)) (s - f) = WC i := by
  constructor
  · intro h
    simp only [SpB, Bool.and_eq_true, beq_iff_eq, List.all_eq_true, List.mem_range] at h
    unfold WC
    rw [← h.1]
    refine pkF_cong (fun j hj => ?_)
    have h1 := h.2 j (by rw [← h.1]; exact hj)
    obtain ⟨r1, r2, r3⟩ := sch_rg i hi j (by rw [← h.1]; exact hj)
    rw [r3] at h1
    exact ((hU (f + j) (by omega) (by omega)).eqI (by omega)).mp h1
  · intro h
    obtain ⟨e1, e2⟩ := pkF_inj _ _ (fun j hj => by have := hL (f + j) (by omega) (by omega); unfold isL at this; omega) (fun j hj => by have := sch_rg i hi j hj; omega) h
    refine SpB_t e1 (fun j hj => ?_)
    obtain ⟨r1, r2, r3⟩ := sch_rg i hi j hj
    rw [r3]
    exact ((hU (f + j) (by omega) (by omega)).eqI (by omega)).mpr (e2 j (by omega))
/-- what a word is -/
def wcP (x : Nat) : Nat × Nat :=
  if x = 469785737829 then (4, 0) else if x = 427021005928 then (4, 1) else if x = 1835360628 then (4, 2) else
  if x = 2003330414 then (6, 0) else if x = 1836021349 then (7, 0) else if x = 1718775661 then (8, 0) else if x = 29807 then (9, 0) else if x = 28530 then (10, 0) else if x = 6385252 then (11, 0) else if x = 7237492 then (12, 0) else
  if x = 470020945000 then (13, 0) else if x = 123580963646565 then (14, 0) else if x = 495874696043 then (15, 0) else if x = 7302244 then (16, 0) else if x = 1919905645 then (17, 0) else (5, 0)
theorem WC_all : WC 0 = 469785737829 ∧ WC 1 = 427021005928 ∧ WC 2 = 1835360628 ∧ WC 3 = 2003330414 ∧ WC 4 = 1836021349 ∧ WC 5 = 1718775661 ∧ WC 6 = 29807 ∧ WC 7 = 28530 ∧ WC 8 = 6385252 ∧ WC 9 = 7237492 ∧ WC 10 = 470020945000 ∧ WC 11 = 123580963646565 ∧ WC 12 = 495874696043 ∧ WC 13 = 7302244 ∧ WC 14 = 1919905645 := by decide +kernel
/-- a number of digits -/
def nmF (U : Nat → Nat) (p : Nat) : Nat → Nat
  | 0 => 0
  | m + 1 => 10 * nmF U p m + (U (p + m) - 48)
theorem nmF_lt (U : Nat → Nat) (p : Nat) : ∀ m, (∀ j, j < m → isD (U (p + j))) → nmF U p m < 10 ^ m
  | 0, _ => Nat.one_pos
  | m + 1, h => by
    have h1 := nmF_lt U p m (fun j hj => h j (by omega))
    have h2 := h m (by omega)
    unfold isD at h2
    simp only [nmF, Nat.pow_succ]
    omega
def RUN (U : Nat → Nat) (P : Nat → Prop) (p e : Nat) : Prop := p ≤ e ∧ (∀ j, p ≤ j → j < e → P (U j)) ∧ ¬ P (U e)
def twn (U : Nat → Nat) (a : Nat) : Prop := U a = 116 ∧ (48 ≤ U (a + 1) ∧ U (a + 1) ≤ 55) ∧ ¬ isL (U (a + 2)) ∧ ¬ isD (U (a + 2))
/-- what stands at place a: its word w, value v, and its end e -/
def TB (U : Nat → Nat) (a w v e : Nat) : Prop :=
  (isS (U a) ∧ w = U a ∧ v = 0 ∧ e = a + 1) ∨
  (isD (U a) ∧ RUN U isD a e ∧ e - a ≤ 6 ∧ ¬ isL (U e) ∧ w = 2 ∧ v = nmF U a (e - a)) ∨
  (isD (U a) ∧ RUN U isD a e ∧ (6 < e - a ∨ isL (U e)) ∧ w = 1) ∨
  (twn U a ∧ w = 3 ∧ v = U (a + 1) - 48 ∧ e = a + 2) ∨
  (isL (U a) ∧ ¬ twn U a ∧ RUN U isL a e ∧ e - a ≤ 8 ∧ (w, v) = wcP (pkF (fun j => U (a + j)) (e - a))) ∨
  (isL (U a) ∧ ¬ twn U a ∧ RUN U isL a e ∧ 8 < e - a ∧ w = 1) ∨
  (¬ isS (U a) ∧ ¬ isD (U a) ∧ ¬ isL (U a) ∧ w = 1)
/-- the token that begins at p or behind blanks there -/
def TK (U : Nat → Nat) (n p w v a e : Nat) : Prop := p ≤ a ∧ (∀ j, p ≤ j → j < a → isB (U j)) ∧ ((a = n ∧ w = 0) ∨ (a < n ∧ ¬ isB (U a) ∧ TB U a w v e))
def st0 (en : Nat → Nat) : Nat → Nat
  | 0 => 0
  | i + 1 => en i
def wOK (y : Nat × Nat) : Prop := 4 ≤ y.1 ∧ y.1 ≤ 17 ∧ y.2 < 3
theorem ite_W {c : Prop} {dc : Decidable c} {a b : Nat × Nat} (ha : wOK a) (hb : wOK b) : wOK (@ite _ c dc a b) := by
  by_cases h : c
  · rw [if_pos h]; exact ha
  · rw [if_neg h]; exact hb
theorem wcP_2 (x : Nat) : wOK (wcP x) := by
  unfold wcP
  repeat' (refine ite_W ?_ ?_)
  all_goals (unfold wOK; decide)
theorem TB_end {U : Nat → Nat} {a w v e : Nat} (h : TB U a w v e) (hw : 2 ≤ w) : a < e ∧ w ≤ 62 ∧ v ≤ 999999 := by
  rcases h with ⟨h1, h2, h3, h4⟩ | ⟨h1, h2, h3, h4, h5, h6⟩ | ⟨_, _, _, h⟩ | ⟨h1, h2, h3, h4⟩ | ⟨h1, h2, h3, h4, h5⟩ | ⟨_, _, _, _, h⟩ | ⟨_, _, _, h⟩
  · unfold isS at h1; omega
  · have h7 : e ≠ a := fun z => h2.2.2 (z ▸ h1)
    have h8 := h2.1
    have h9 := nmF_lt U a (e - a) (fun j hj => h2.2.1 _ (by omega) (by omega))
    have h10 : 10 ^ (e - a) ≤ 10 ^ 6 := Nat.pow_le_pow_right (by omega) h3
    omega
  · omega
  · have := h1.2.1
    omega
  · have h7 : e ≠ a := fun z => h3.2.2 (z ▸ h1)
    have h8 := h3.1
    have := wcP_2 (pkF (fun j => U (a + j)) (e - a))
    rw [← h5] at this
    unfold wOK at this
    dsimp only at this
    omega
  · omega
  · omega
