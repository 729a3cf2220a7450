def I1 (σ : HS) : Prop := ∃ n, n ≤ 8 ∧ σ.1 0 0 7 = nI n ∧ σ.1 2 0 3 = nI n ∧ ∀ t, n ≤ t → t < 8 → σ.1 12 0 t = 0
def I2 (σ : HS) : Prop := ∃ m, m ≤ 2000 ∧ σ.1 0 0 8 = nI m ∧ σ.1 2 0 4 = nI m
def I3 (σ : HS) : Prop := ∀ t, t < 8 → isN (σ.1 12 0 t) 100000 ∧ isN (σ.1 13 0 t) 1000 ∧ isN (σ.1 14 0 t) 500 ∧ σ.1 3 t 0 = σ.1 12 0 t ∧ σ.1 3 t 1 = σ.1 13 0 t ∧ σ.1 3 t 2 = σ.1 14 0 t
def I4 (σ : HS) : Prop := ∀ a b, a < 8 → b < 8 → σ.1 61 a b = σ.1 15 0 (8 * a + b) ∧ (a = b → σ.1 15 0 (8 * a + b) = 0) ∧ (a ≠ b → σ.1 15 0 (8 * a + b) = -1 ∨ ∃ x, 1 ≤ x ∧ x ≤ 200 ∧ σ.1 15 0 (8 * a + b) = nI x)
def I5 (σ : HS) : Prop := ∀ k, k < 3 → σ.1 62 0 k = σ.1 16 0 k ∧ ∃ x, 1 ≤ x ∧ x ≤ 60 ∧ σ.1 16 0 k = nI x
def I6 (σ : HS) : Prop := (∀ j, j < 1464 → isN (σ.1 17 0 j) 100000) ∧ (∀ r a, r < 24 → a < 61 → σ.1 65 r a = σ.1 17 0 (61 * r + a)) ∧ (∀ t k, t < 8 → k < 3 → σ.1 63 t k = nI (sm (fun a => vN (σ.1 17 0 (61 * (3 * t + k) + a))) 61)) ∧ ∀ t, t < 8 → sm (fun j => vN (σ.1 17 0 (183 * t + j))) 183 ≤ vN (σ.1 12 0 t)
def I7 (σ : HS) : Prop := σ.1 4 0 0 = σ.1 18 0 0 ∧ σ.1 4 0 1 = σ.1 18 0 1 ∧ σ.1 4 0 2 = σ.1 18 0 2 ∧ σ.1 4 0 3 = σ.1 18 0 5
def I8 (σ : HS) : Prop := ∃ w, w ≤ 60 ∧ σ.1 0 0 43 = nI w ∧ σ.1 5 0 5 = nI w ∧ ∀ j, j < w → σ.1 66 0 j = σ.1 33 0 j ∧ σ.1 67 0 j = σ.1 34 0 j ∧ σ.1 68 0 j = σ.1 35 0 j ∧ σ.1 69 0 j = σ.1 36 0 j ∧ σ.1 70 0 j = σ.1 37 0 j ∧
  (∃ t, t < vN (σ.1 0 0 7) ∧ σ.1 33 0 j = nI t) ∧ (∃ k, k < 3 ∧ σ.1 34 0 j = nI k) ∧ (∃ a, a ≤ 60 + vN (σ.1 0 0 8) ∧ σ.1 35 0 j = nI a) ∧ isN (σ.1 36 0 j) 100000 ∧ (∃ c, vN (σ.1 0 0 8) ≤ c ∧ c ≤ 3000 ∧ σ.1 37 0 j = nI c)
def I9 (σ : HS) : Prop := ∃ b, b ≤ 1000 ∧ σ.1 0 0 11 = nI b ∧ σ.1 1 0 4 = nI b ∧ ∀ j, j < b → σ.1 58 0 j = σ.1 19 0 j ∧ i2b (σ.1 19 0 j) = σ.1 19 0 j
/-- one step of a condition: the reference's three ints and the class's one -/
def encR (c v k s : Int32) : Prop :=
  (c = 110 ∧ ∃ n, n ≤ 999999 ∧ v = nI n ∧ s = nI (64 * n + 2)) ∨ (c = 109 ∧ s = 13) ∨ (c = 112 ∧ ∃ t, t < 8 ∧ v = nI t ∧ s = nI (64 * (3 * t) + 14)) ∨
  (c = 115 ∧ ∃ t q, t < 8 ∧ q < 3 ∧ v = nI t ∧ k = nI q ∧ s = nI (64 * (3 * t + q) + 15)) ∨ (c = 111 ∧ ∃ t q, t < 8 ∧ q < 3 ∧ v = nI t ∧ k = nI q ∧ s = nI (64 * (3 * t + q) + 16)) ∨ (c = 114 ∧ ∃ t, t < 8 ∧ v = nI t ∧ s = nI (64 * (3 * t) + 17)) ∨
  (c = 43 ∧ s = 43) ∨ (c = 45 ∧ s = 45) ∨ (c = 60 ∧ s = 60) ∨ (c = 61 ∧ s = 61) ∨ (c = 62 ∧ s = 62) ∨ (c = 38 ∧ s = 11) ∨ (c = 124 ∧ s = 10) ∨ (c = 126 ∧ s = 12)
/-- how a step moves the height of the pile of values -/
def mvR (c : Int32) (h h2 : Nat) : Prop := (97 ≤ c ∧ c ≤ 122 ∧ h < 32 ∧ h2 = h + 1) ∨ (c = 126 ∧ 1 ≤ h ∧ h2 = h) ∨ (¬ (97 ≤ c ∧ c ≤ 122) ∧ c ≠ 126 ∧ 2 ≤ h ∧ h2 + 1 = h)
def I10 (σ : HS) : Prop := ∃ (r b nl : Nat) (st : Nat → Nat), r < 2 ∧ b < 2 ∧ nl ≤ 12 ∧ σ.1 6 0 4 = nI r ∧ σ.1 6 0 5 = nI (1 - r) ∧ σ.1 0 0 30 = nI b ∧ σ.1 7 r 3 = nI nl ∧ σ.1 21 0 b = nI nl ∧ st 0 = 0 ∧ st nl ≤ 500 ∧
  (∀ l, l < nl → st l ≤ st (l + 1) ∧ st (l + 1) ≤ 500 ∧ σ.1 73 r l = nI (st (l + 1)) ∧ σ.1 22 0 (12 * b + l) = nI (st l) ∧ σ.1 23 0 (12 * b + l) = nI (st (l + 1)) ∧
    σ.1 74 r l = σ.1 24 0 (12 * b + l) ∧ isN (σ.1 24 0 (12 * b + l)) 999999 ∧ σ.1 75 r l = σ.1 25 0 (12 * b + l) ∧ (∃ k, k < 3 ∧ σ.1 25 0 (12 * b + l) = nI k) ∧
    σ.1 76 r l = σ.1 26 0 (12 * b + l) ∧ isN (σ.1 26 0 (12 * b + l)) 7 ∧ σ.1 77 r l = σ.1 27 0 (12 * b + l) ∧ isN (σ.1 27 0 (12 * b + l)) 7 ∧ σ.1 26 0 (12 * b + l) ≠ σ.1 27 0 (12 * b + l) ∧
    ∃ hg : Nat → Nat, hg (st l) = 0 ∧ hg (st (l + 1)) ≤ 1 ∧ ∀ q, st l ≤ q → q < st (l + 1) → mvR (σ.1 28 0 (1000 * b + q)) (hg q) (hg (q + 1))) ∧
  ∀ q, q < st nl → encR (σ.1 28 0 (1000 * b + q)) (σ.1 29 0 (1000 * b + q)) (σ.1 30 0 (1000 * b + q)) (σ.1 71 r q)
def I11 (σ : HS) : Prop := σ.1 6 0 6 = σ.1 0 0 13 ∧ σ.1 6 0 7 = σ.1 0 0 14
def I12 (σ : HS) : Prop := ∃ f, f ≤ 10 ∧ σ.1 0 0 55 = nI f ∧ σ.1 9 0 4 = nI f ∧ ∀ j, j < f → σ.1 81 0 j = σ.1 38 0 j ∧ σ.1 82 0 j = σ.1 39 0 j ∧ σ.1 83 0 j = σ.1 40 0 j ∧ σ.1 84 0 j = σ.1 41 0 j ∧
  (∃ t, t < vN (σ.1 0 0 7) ∧ σ.1 38 0 j = nI t) ∧ isN (σ.1 39 0 j) 2000 ∧ (∃ k, k < 3 ∧ σ.1 40 0 j = nI k) ∧ ∃ x, 1 ≤ x ∧ x ≤ 10000 ∧ σ.1 41 0 j = nI x
def I13 (σ : HS) : Prop := σ.1 2 0 5 = σ.1 0 0 59 ∧ isN (σ.1 0 0 59) 100000 ∧ ∀ t, t < 8 → σ.1 3 t 3 = σ.1 49 0 t
def I14 (σ : HS) : Prop := ∃ c, c ≤ 60 ∧ σ.1 0 0 68 = nI c ∧ σ.1 11 0 6 = nI c ∧ ∀ j, j < c → (∃ p, p < 5 ∧ σ.1 50 0 j = nI p ∧ σ.1 98 0 j = nI p) ∧ (∃ t k, t < vN (σ.1 0 0 7) ∧ k < 3 ∧ σ.1 51 0 j = nI t ∧ σ.1 52 0 j = nI k ∧ σ.1 99 0 j = nI (3 * t + k)) ∧
  σ.1 100 0 j = σ.1 53 0 j ∧ σ.1 101 0 j = σ.1 54 0 j ∧ isN (σ.1 54 0 j) 1000000 ∧ σ.1 102 0 j = σ.1 55 0 j ∧ σ.1 103 0 j = σ.1 56 0 j ∧ (σ.1 56 0 j = -1 ∨ isN (σ.1 56 0 j) 2000)
def Inv (σ : HS) : Prop := I1 σ ∧ I2 σ ∧ I3 σ ∧ I4 σ ∧ I5 σ ∧ I6 σ ∧ I7 σ ∧ I8 σ ∧ I9 σ ∧ I10 σ ∧ I11 σ ∧ I12 σ ∧ I13 σ ∧ I14 σ
def Step (M1 M2 : MI) (As : List AV) : Prop := ∀ (σ : HS), Inv σ → MT 60 M1 (vR 1 0 :: As) σ (fun r σ1 => ∃ x, r = some (vI x) ∧ MT 60 M2 (vR 0 0 :: As) σ1 (fun r2 σ2 => r2 = some (vI x) ∧ Inv σ2))
/-- no change: any method that answers and leaves the heap -/
theorem step_same {M2 : MI} {As : List AV} {σ : HS} {x y : Int32} (hI : Inv σ) (h : MT 60 M2 (vR 0 0 :: As) σ (fun r2 σ2 => r2 = some (vI y) ∧ σ2 = σ)) (e : x = y) : ∃ z, some (vI x) = some (vI z) ∧ MT 60 M2 (vR 0 0 :: As) σ (fun r2 σ2 => r2 = some (vI z) ∧ Inv σ2) :=
  ⟨x, rfl, h.mono (fun r σ2 hq => by obtain ⟨h1, rfl⟩ := hq; rw [e]; exact ⟨h1, hI⟩)⟩
theorem tw_iff {x : Int32} {n : Nat} (hn : n ≤ 8) : (0 ≤ x ∧ x ≤ nI n - 1) ↔ ∃ t, t < n ∧ x = nI t := by
  constructor
  · intro ⟨h1, h2⟩
    obtain ⟨j, hj, rfl⟩ := nI_of (x := x) (by rw [Int32.lt_iff_toInt_lt]; rw [Int32.le_iff_toInt_le] at h1; omega)
    refine ⟨j, ?_, rfl⟩
    rw [Int32.le_iff_toInt_le, nI_toInt hj] at h2
    have h3 : (nI n - 1).toInt = (n : Int) - 1 := pk_sub_toInt (a := n) (b := 1) (by omega) (by omega)
    rw [h3] at h2
    omega
  · rintro ⟨t, ht, rfl⟩
    refine ⟨nI_pos' (by omega), ?_⟩
    rw [Int32.le_iff_toInt_le, nI_toInt (by omega)]
    have h3 : (nI n - 1).toInt = (n : Int) - 1 := pk_sub_toInt (a := n) (b := 1) (by omega) (by omega)
    rw [h3]
    omega
theorem tw_iff2 {x : Int32} {n : Nat} (hn : n < 2 ^ 31) : (0 ≤ x ∧ x < nI n) ↔ ∃ t, t < n ∧ x = nI t := by
  constructor
  · intro ⟨h1, h2⟩
    obtain ⟨j, hj, rfl⟩ := nI_of (x := x) (by rw [Int32.lt_iff_toInt_lt]; rw [Int32.le_iff_toInt_le] at h1; omega)
    exact ⟨j, (nI_ltI hj hn).mp h2, rfl⟩
  · rintro ⟨t, ht, rfl⟩
    exact ⟨nI_pos' (by omega), nI_lt ht hn⟩
/-- a number between two -/
theorem rg_iff {x : Int32} {a b : Nat} (ha : a < 2 ^ 31) (hb : b < 2 ^ 31) : (nI a ≤ x ∧ x ≤ nI b) ↔ ∃ t, a ≤ t ∧ t ≤ b ∧ x = nI t := by
  constructor
  · intro ⟨h1, h2⟩
    have h0 : (0 : Int32) ≤ nI a := nI_pos' ha
    obtain ⟨j, hj, rfl⟩ := nI_of (x := x) (by rw [Int32.lt_iff_toInt_lt]; rw [Int32.le_iff_toInt_le] at h0 h1; have : (0 : Int32).toInt = 0 := rfl; omega)
    exact ⟨j, (nI_leI ha hj).mp h1, (nI_leI hj hb).mp h2, rfl⟩
  · rintro ⟨t, h1, h2, rfl⟩
    exact ⟨nI_le h1 (by omega), nI_le h2 hb⟩
