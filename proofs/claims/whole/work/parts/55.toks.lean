/-! reading a text: what both sides stand at -/
abbrev GI := Nat × Nat × Nat
def gOK (g : GI) : Prop := (g.1 = 110 ∧ g.2.1 ≤ 999999) ∨ g.1 = 109 ∨ (g.1 = 112 ∧ g.2.1 < 8) ∨ (g.1 = 114 ∧ g.2.1 < 8) ∨ (g.1 = 115 ∧ g.2.1 < 8 ∧ g.2.2 < 3) ∨ (g.1 = 111 ∧ g.2.1 < 8 ∧ g.2.2 < 3) ∨ g.1 = 43 ∨ g.1 = 45 ∨ g.1 = 60 ∨ g.1 = 61 ∨ g.1 = 62 ∨ g.1 = 38 ∨ g.1 = 124 ∨ g.1 = 126
def gE (g : GI) : Nat := if g.1 = 110 then 64 * g.2.1 + 2 else if g.1 = 109 then 13 else if g.1 = 112 then 64 * (3 * g.2.1) + 14 else if g.1 = 115 then 64 * (3 * g.2.1 + g.2.2) + 15 else if g.1 = 111 then 64 * (3 * g.2.1 + g.2.2) + 16 else if g.1 = 114 then 64 * (3 * g.2.1) + 17 else if g.1 = 38 then 11 else if g.1 = 124 then 10 else if g.1 = 126 then 12 else g.1
def RM (σ : HS) (j : Nat) (g : GI) : Prop := σ.1 28 0 j = nI g.1 ∧ ((g.1 = 110 ∨ g.1 = 112 ∨ g.1 = 114 ∨ g.1 = 115 ∨ g.1 = 111) → σ.1 29 0 j = nI g.2.1) ∧ ((g.1 = 115 ∨ g.1 = 111) → σ.1 30 0 j = nI g.2.2)
theorem enc_of {σ : HS} {j : Nat} {g : GI} {s : Int32} (h : RM σ j g) (ok : gOK g) (hs : s = nI (gE g)) : encR (σ.1 28 0 j) (σ.1 29 0 j) (σ.1 30 0 j) s := by
  obtain ⟨h1, h2, h3⟩ := h
  rcases ok with ⟨e, r⟩ | e | ⟨e, r⟩ | ⟨e, r⟩ | ⟨e, r, r2⟩ | ⟨e, r, r2⟩ | e | e | e | e | e | e | e | e <;> rw [e] at h1 <;> simp only [gE, e] at hs
  · exact Or.inl ⟨h1, _, r, h2 (Or.inl e), hs⟩
  · exact Or.inr (Or.inl ⟨h1, hs⟩)
  · exact Or.inr (Or.inr (Or.inl ⟨h1, _, r, h2 (Or.inr (Or.inl e)), hs⟩))
  · exact Or.inr (Or.inr (Or.inr (Or.inr (Or.inr (Or.inl ⟨h1, _, r, h2 (Or.inr (Or.inr (Or.inl e))), hs⟩)))))
  · exact Or.inr (Or.inr (Or.inr (Or.inl ⟨h1, _, _, r, r2, h2 (Or.inr (Or.inr (Or.inr (Or.inl e)))), h3 (Or.inl e), hs⟩)))
  · exact Or.inr (Or.inr (Or.inr (Or.inr (Or.inl ⟨h1, _, _, r, r2, h2 (Or.inr (Or.inr (Or.inr (Or.inr e)))), h3 (Or.inr e), hs⟩))))
  · exact Or.inr (Or.inr (Or.inr (Or.inr (Or.inr (Or.inr (Or.inl ⟨h1, hs⟩))))))
  · exact Or.inr (Or.inr (Or.inr (Or.inr (Or.inr (Or.inr (Or.inr (Or.inl ⟨h1, hs⟩)))))))
  · exact Or.inr (Or.inr (Or.inr (Or.inr (Or.inr (Or.inr (Or.inr (Or.inr (Or.inl ⟨h1, hs⟩))))))))
  · exact Or.inr (Or.inr (Or.inr (Or.inr (Or.inr (Or.inr (Or.inr (Or.inr (Or.inr (Or.inl ⟨h1, hs⟩)))))))))
  · exact Or.inr (Or.inr (Or.inr (Or.inr (Or.inr (Or.inr (Or.inr (Or.inr (Or.inr (Or.inr (Or.inl ⟨h1, hs⟩))))))))))
  · exact Or.inr (Or.inr (Or.inr (Or.inr (Or.inr (Or.inr (Or.inr (Or.inr (Or.inr (Or.inr (Or.inr (Or.inl ⟨h1, hs⟩)))))))))))
  · exact Or.inr (Or.inr (Or.inr (Or.inr (Or.inr (Or.inr (Or.inr (Or.inr (Or.inr (Or.inr (Or.inr (Or.inr (Or.inl ⟨h1, hs⟩))))))))))))
  · exact Or.inr (Or.inr (Or.inr (Or.inr (Or.inr (Or.inr (Or.inr (Or.inr (Or.inr (Or.inr (Or.inr (Or.inr (Or.inr ⟨h1, hs⟩))))))))))))
theorem nI_pack {v w : Nat} (hv : v < 2 ^ 20) (hw : w < 64) : (nI v <<< ((6 : Int32) &&& 31)) ||| nI w = nI (64 * v + w) := by
  rw [pk_shlN ((6 : Int32) &&& 31) 6 (by decide +kernel) (by omega)]
  refine Int32.toBitVec_inj.mp (BitVec.eq_of_toNat_eq ?_)
  rw [Int32.toBitVec_or, BitVec.toNat_or, pk_tn (by omega), pk_tn (by omega), pk_tn (by omega)]
  have := Nat.shiftLeft_add_eq_or_of_lt (i := 6) (b := w) (by omega) v
  rw [Nat.shiftLeft_eq] at this
  omega
theorem wcP_cases (x : Nat) : (x = 469785737829 ∧ wcP x = (4, 0)) ∨ (x = 427021005928 ∧ wcP x = (4, 1)) ∨ (x = 1835360628 ∧ wcP x = (4, 2)) ∨ (x = 2003330414 ∧ wcP x = (6, 0)) ∨ (x = 1836021349 ∧ wcP x = (7, 0)) ∨ (x = 1718775661 ∧ wcP x = (8, 0)) ∨ (x = 29807 ∧ wcP x = (9, 0)) ∨ (x = 28530 ∧ wcP x = (10, 0)) ∨ (x = 6385252 ∧ wcP x = (11, 0)) ∨ (x = 7237492 ∧ wcP x = (12, 0)) ∨ (x = 470020945000 ∧ wcP x = (13, 0)) ∨ (x = 123580963646565 ∧ wcP x = (14, 0)) ∨ (x = 495874696043 ∧ wcP x = (15, 0)) ∨ (x = 7302244 ∧ wcP x = (16, 0)) ∨ (x = 1919905645 ∧ wcP x = (17, 0)) ∨ (wcP x = (5, 0) ∧ x ≠ 469785737829 ∧ x ≠ 427021005928 ∧ x ≠ 1835360628 ∧ x ≠ 2003330414 ∧ x ≠ 1836021349 ∧ x ≠ 1718775661 ∧ x ≠ 29807 ∧ x ≠ 28530 ∧ x ≠ 6385252 ∧ x ≠ 7237492 ∧ x ≠ 470020945000 ∧ x ≠ 123580963646565 ∧ x ≠ 495874696043 ∧ x ≠ 7302244 ∧ x ≠ 1919905645) := by
  by_cases h0 : x = 469785737829
  · exact Or.inl ⟨h0, by unfold wcP; rw [if_pos h0]⟩
  by_cases h1 : x = 427021005928
  · exact Or.inr (Or.inl ⟨h1, by unfold wcP; rw [if_neg h0, if_pos h1]⟩)
  by_cases h2 : x = 1835360628
  · exact Or.inr (Or.inr (Or.inl ⟨h2, by unfold wcP; rw [if_neg h0, if_neg h1, if_pos h2]⟩))
  by_cases h3 : x = 2003330414
  · exact Or.inr (Or.inr (Or.inr (Or.inl ⟨h3, by unfold wcP; rw [if_neg h0, if_neg h1, if_neg h2, if_pos h3]⟩)))
  by_cases h4 : x = 1836021349
  · exact Or.inr (Or.inr (Or.inr (Or.inr (Or.inl ⟨h4, by unfold wcP; rw [if_neg h0, if_neg h1, if_neg h2, if_neg h3, if_pos h4]⟩))))
  by_cases h5 : x = 1718775661
  · exact Or.inr (Or.inr (Or.inr (Or.inr (Or.inr (Or.inl ⟨h5, by unfold wcP; rw [if_neg h0, if_neg h1, if_neg h2, if_neg h3, if_neg h4, if_pos h5]⟩)))))
  by_cases h6 : x = 29807
  · exact Or.inr (Or.inr (Or.inr (Or.inr (Or.inr (Or.inr (Or.inl ⟨h6, by unfold wcP; rw [if_neg h0, if_neg h1, if_neg h2, if_neg h3, if_neg h4, if_neg h5, if_pos h6]⟩))))))
  by_cases h7 : x = 28530
  · exact Or.inr (Or.inr (Or.inr (Or.inr (Or.inr (Or.inr (Or.inr (Or.inl ⟨h7, by unfold wcP; rw [if_neg h0, if_neg h1, if_neg h2, if_neg h3, if_neg h4, if_neg h5, if_neg h6, if_pos h7]⟩)))))))
  by_cases h8 : x = 6385252
  · exact Or.inr (Or.inr (Or.inr (Or.inr (Or.inr (Or.inr (Or.inr (Or.inr (Or.inl ⟨h8, by unfold wcP; rw [if_neg h0, if_neg h1, if_neg h2, if_neg h3, if_neg h4, if_neg h5, if_neg h6, if_neg h7, if_pos h8]⟩))))))))
  by_cases h9 : x = 7237492
  · exact Or.inr (Or.inr (Or.inr (Or.inr (Or.inr (Or.inr (Or.inr (Or.inr (Or.inr (Or.inl ⟨h9, by unfold wcP; rw [if_neg h0, if_neg h1, if_neg h2, if_neg h3, if_neg h4, if_neg h5, if_neg h6, if_neg h7, if_neg h8, if_pos h9]⟩)))))))))
  by_cases h10 : x = 470020945000
  · exact Or.inr (Or.inr (Or.inr (Or.inr (Or.inr (Or.inr (Or.inr (Or.inr (Or.inr (Or.inr (Or.inl ⟨h10, by unfold wcP; rw [if_neg h0, if_neg h1, if_neg h2, if_neg h3, if_neg h4, if_neg h5, if_neg h6, if_neg h7, if_neg h8, if_neg h9, if_pos h10]⟩))))))))))
  by_cases h11 : x = 123580963646565
  · exact Or.inr (Or.inr (Or.inr (Or.inr (Or.inr (Or.inr (Or.inr (Or.inr (Or.inr (Or.inr (Or.inr (Or.inl ⟨h11, by unfold wcP; rw [if_neg h0, if_neg h1, if_neg h2, if_neg h3, if_neg h4, if_neg h5, if_neg h6, if_neg h7, if_neg h8, if_neg h9, if_neg h10, if_pos h11]⟩)))))))))))
  by_cases h12 : x = 495874696043
  · exact Or.inr (Or.inr (Or.inr (Or.inr (Or.inr (Or.inr (Or.inr (Or.inr (Or.inr (Or.inr (Or.inr (Or.inr (Or.inl ⟨h12, by unfold wcP; rw [if_neg h0, if_neg h1, if_neg h2, if_neg h3, if_neg h4, if_neg h5, if_neg h6, if_neg h7, if_neg h8, if_neg h9, if_neg h10, if_neg h11, if_pos h12]⟩))))))))))))
  by_cases h13 : x = 7302244
  · exact Or.inr (Or.inr (Or.inr (Or.inr (Or.inr (Or.inr (Or.inr (Or.inr (Or.inr (Or.inr (Or.inr (Or.inr (Or.inr (Or.inl ⟨h13, by unfold wcP; rw [if_neg h0, if_neg h1, if_neg h2, if_neg h3, if_neg h4, if_neg h5, if_neg h6, if_neg h7, if_neg h8, if_neg h9, if_neg h10, if_neg h11, if_neg h12, if_pos h13]⟩)))))))))))))
  by_cases h14 : x = 1919905645
  · exact Or.inr (Or.inr (Or.inr (Or.inr (Or.inr (Or.inr (Or.inr (Or.inr (Or.inr (Or.inr (Or.inr (Or.inr (Or.inr (Or.inr (Or.inl ⟨h14, by unfold wcP; rw [if_neg h0, if_neg h1, if_neg h2, if_neg h3, if_neg h4, if_neg h5, if_neg h6, if_neg h7, if_neg h8, if_neg h9, if_neg h10, if_neg h11, if_neg h12, if_neg h13, if_pos h14]⟩))))))))))))))
  exact Or.inr (Or.inr (Or.inr (Or.inr (Or.inr (Or.inr (Or.inr (Or.inr (Or.inr (Or.inr (Or.inr (Or.inr (Or.inr (Or.inr (Or.inr (⟨by unfold wcP; rw [if_neg h0, if_neg h1, if_neg h2, if_neg h3, if_neg h4, if_neg h5, if_neg h6, if_neg h7, if_neg h8, if_neg h9, if_neg h10, if_neg h11, if_neg h12, if_neg h13, if_neg h14], h0, h1, h2, h3, h4, h5, h6, h7, h8, h9, h10, h11, h12, h13, h14⟩)))))))))))))))
theorem wcq_4_0 (x : Nat) : wcP x = (4, 0) ↔ x = 469785737829 := by
  rcases wcP_cases x with ⟨y, z⟩ | ⟨y, z⟩ | ⟨y, z⟩ | ⟨y, z⟩ | ⟨y, z⟩ | ⟨y, z⟩ | ⟨y, z⟩ | ⟨y, z⟩ | ⟨y, z⟩ | ⟨y, z⟩ | ⟨y, z⟩ | ⟨y, z⟩ | ⟨y, z⟩ | ⟨y, z⟩ | ⟨y, z⟩ | ⟨z, y⟩ <;> rw [z] <;> (try rw [y]) <;> first | decide | (simp; omega)
theorem wcq_4_1 (x : Nat) : wcP x = (4, 1) ↔ x = 427021005928 := by
  rcases wcP_cases x with ⟨y, z⟩ | ⟨y, z⟩ | ⟨y, z⟩ | ⟨y, z⟩ | ⟨y, z⟩ | ⟨y, z⟩ | ⟨y, z⟩ | ⟨y, z⟩ | ⟨y, z⟩ | ⟨y, z⟩ | ⟨y, z⟩ | ⟨y, z⟩ | ⟨y, z⟩ | ⟨y, z⟩ | ⟨y, z⟩ | ⟨z, y⟩ <;> rw [z] <;> (try rw [y]) <;> first | decide | (simp; omega)
theorem wcq_4_2 (x : Nat) : wcP x = (4, 2) ↔ x = 1835360628 := by
  rcases wcP_cases x with ⟨y, z⟩ | ⟨y, z⟩ | ⟨y, z⟩ | ⟨y, z⟩ | ⟨y, z⟩ | ⟨y, z⟩ | ⟨y, z⟩ | ⟨y, z⟩ | ⟨y, z⟩ | ⟨y, z⟩ | ⟨y, z⟩ | ⟨y, z⟩ | ⟨y, z⟩ | ⟨y, z⟩ | ⟨y, z⟩ | ⟨z, y⟩ <;> rw [z] <;> (try rw [y]) <;> first | decide | (simp; omega)
theorem wcq_6 (x : Nat) : (wcP x).1 = 6 ↔ x = 2003330414 := by
  rcases wcP_cases x with ⟨y, z⟩ | ⟨y, z⟩ | ⟨y, z⟩ | ⟨y, z⟩ | ⟨y, z⟩ | ⟨y, z⟩ | ⟨y, z⟩ | ⟨y, z⟩ | ⟨y, z⟩ | ⟨y, z⟩ | ⟨y, z⟩ | ⟨y, z⟩ | ⟨y, z⟩ | ⟨y, z⟩ | ⟨y, z⟩ | ⟨z, y⟩ <;> rw [z] <;> (try rw [y]) <;> first | decide | (simp; omega)
theorem wcq_7 (x : Nat) : (wcP x).1 = 7 ↔ x = 1836021349 := by
  rcases wcP_cases x with ⟨y, z⟩ | ⟨y, z⟩ | ⟨y, z⟩ | ⟨y, z⟩ | ⟨y, z⟩ | ⟨y, z⟩ | ⟨y, z⟩ | ⟨y, z⟩ | ⟨y, z⟩ | ⟨y, z⟩ | ⟨y, z⟩ | ⟨y, z⟩ | ⟨y, z⟩ | ⟨y, z⟩ | ⟨y, z⟩ | ⟨z, y⟩ <;> rw [z] <;> (try rw [y]) <;> first | decide | (simp; omega)
theorem wcq_8 (x : Nat) : (wcP x).1 = 8 ↔ x = 1718775661 := by
  rcases wcP_cases x with ⟨y, z⟩ | ⟨y, z⟩ | ⟨y, z⟩ | ⟨y, z⟩ | ⟨y, z⟩ | ⟨y, z⟩ | ⟨y, z⟩ | ⟨y, z⟩ | ⟨y, z⟩ | ⟨y, z⟩ | ⟨y, z⟩ | ⟨y, z⟩ | ⟨y, z⟩ | ⟨y, z⟩ | ⟨y, z⟩ | ⟨z, y⟩ <;> rw [z] <;> (try rw [y]) <;> first | decide | (simp; omega)
theorem wcq_9 (x : Nat) : (wcP x).1 = 9 ↔ x = 29807 := by
  rcases wcP_cases x with ⟨y, z⟩ | ⟨y, z⟩ | ⟨y, z⟩ | ⟨y, z⟩ | ⟨y, z⟩ | ⟨y, z⟩ | ⟨y, z⟩ | ⟨y, z⟩ | ⟨y, z⟩ | ⟨y, z⟩ | ⟨y, z⟩ | ⟨y, z⟩ | ⟨y, z⟩ | ⟨y, z⟩ | ⟨y, z⟩ | ⟨z, y⟩ <;> rw [z] <;> (try rw [y]) <;> first | decide | (simp; omega)
theorem wcq_10 (x : Nat) : (wcP x).1 = 10 ↔ x = 28530 := by
  rcases wcP_cases x with ⟨y, z⟩ | ⟨y, z⟩ | ⟨y, z⟩ | ⟨y, z⟩ | ⟨y, z⟩ | ⟨y, z⟩ | ⟨y, z⟩ | ⟨y, z⟩ | ⟨y, z⟩ | ⟨y, z⟩ | ⟨y, z⟩ | ⟨y, z⟩ | ⟨y, z⟩ | ⟨y, z⟩ | ⟨y, z⟩ | ⟨z, y⟩ <;> rw [z] <;> (try rw [y]) <;> first | decide | (simp; omega)
theorem wcq_11 (x : Nat) : (wcP x).1 = 11 ↔ x = 6385252 := by
  rcases wcP_cases x with ⟨y, z⟩ | ⟨y, z⟩ | ⟨y, z⟩ | ⟨y, z⟩ | ⟨y, z⟩ | ⟨y, z⟩ | ⟨y, z⟩ | ⟨y, z⟩ | ⟨y, z⟩ | ⟨y, z⟩ | ⟨y, z⟩ | ⟨y, z⟩ | ⟨y, z⟩ | ⟨y, z⟩ | ⟨y, z⟩ | ⟨z, y⟩ <;> rw [z] <;> (try rw [y]) <;> first | decide | (simp; omega)
theorem wcq_12 (x : Nat) : (wcP x).1 = 12 ↔ x = 7237492 := by
  rcases wcP_cases x with ⟨y, z⟩ | ⟨y, z⟩ | ⟨y, z⟩ | ⟨y, z⟩ | ⟨y, z⟩ | ⟨y, z⟩ | ⟨y, z⟩ | ⟨y, z⟩ | ⟨y, z⟩ | ⟨y, z⟩ | ⟨y, z⟩ | ⟨y, z⟩ | ⟨y, z⟩ | ⟨y, z⟩ | ⟨y, z⟩ | ⟨z, y⟩ <;> rw [z] <;> (try rw [y]) <;> first | decide | (simp; omega)
theorem wcq_13 (x : Nat) : (wcP x).1 = 13 ↔ x = 470020945000 := by
  rcases wcP_cases x with ⟨y, z⟩ | ⟨y, z⟩ | ⟨y, z⟩ | ⟨y, z⟩ | ⟨y, z⟩ | ⟨y, z⟩ | ⟨y, z⟩ | ⟨y, z⟩ | ⟨y, z⟩ | ⟨y, z⟩ | ⟨y, z⟩ | ⟨y, z⟩ | ⟨y, z⟩ | ⟨y, z⟩ | ⟨y, z⟩ | ⟨z, y⟩ <;> rw [z] <;> (try rw [y]) <;> first | decide | (simp; omega)
theorem wcq_14 (x : Nat) : (wcP x).1 = 14 ↔ x = 123580963646565 := by
  rcases wcP_cases x with ⟨y, z⟩ | ⟨y, z⟩ | ⟨y, z⟩ | ⟨y, z⟩ | ⟨y, z⟩ | ⟨y, z⟩ | ⟨y, z⟩ | ⟨y, z⟩ | ⟨y, z⟩ | ⟨y, z⟩ | ⟨y, z⟩ | ⟨y, z⟩ | ⟨y, z⟩ | ⟨y, z⟩ | ⟨y, z⟩ | ⟨z, y⟩ <;> rw [z] <;> (try rw [y]) <;> first | decide | (simp; omega)
theorem wcq_15 (x : Nat) : (wcP x).1 = 15 ↔ x = 495874696043 := by
  rcases wcP_cases x with ⟨y, z⟩ | ⟨y, z⟩ | ⟨y, z⟩ | ⟨y, z⟩ | ⟨y, z⟩ | ⟨y, z⟩ | ⟨y, z⟩ | ⟨y, z⟩ | ⟨y, z⟩ | ⟨y, z⟩ | ⟨y, z⟩ | ⟨y, z⟩ | ⟨y, z⟩ | ⟨y, z⟩ | ⟨y, z⟩ | ⟨z, y⟩ <;> rw [z] <;> (try rw [y]) <;> first | decide | (simp; omega)
theorem wcq_16 (x : Nat) : (wcP x).1 = 16 ↔ x = 7302244 := by
  rcases wcP_cases x with ⟨y, z⟩ | ⟨y, z⟩ | ⟨y, z⟩ | ⟨y, z⟩ | ⟨y, z⟩ | ⟨y, z⟩ | ⟨y, z⟩ | ⟨y, z⟩ | ⟨y, z⟩ | ⟨y, z⟩ | ⟨y, z⟩ | ⟨y, z⟩ | ⟨y, z⟩ | ⟨y, z⟩ | ⟨y, z⟩ | ⟨z, y⟩ <;> rw [z] <;> (try rw [y]) <;> first | decide | (simp; omega)
theorem wcq_17 (x : Nat) : (wcP x).1 = 17 ↔ x = 1919905645 := by
  rcases wcP_cases x with ⟨y, z⟩ | ⟨y, z⟩ | ⟨y, z⟩ | ⟨y, z⟩ | ⟨y, z⟩ | ⟨y, z⟩ | ⟨y, z⟩ | ⟨y, z⟩ | ⟨y, z⟩ | ⟨y, z⟩ | ⟨y, z⟩ | ⟨y, z⟩ | ⟨y, z⟩ | ⟨y, z⟩ | ⟨y, z⟩ | ⟨z, y⟩ <;> rw [z] <;> (try rw [y]) <;> first | decide | (simp; omega)
/-- the ranges of a token's value -/
theorem wcP_v (x : Nat) : (wcP x).1 ≠ 4 → (wcP x).2 = 0 := by
  rcases wcP_cases x with ⟨y, z⟩ | ⟨y, z⟩ | ⟨y, z⟩ | ⟨y, z⟩ | ⟨y, z⟩ | ⟨y, z⟩ | ⟨y, z⟩ | ⟨y, z⟩ | ⟨y, z⟩ | ⟨y, z⟩ | ⟨y, z⟩ | ⟨y, z⟩ | ⟨y, z⟩ | ⟨y, z⟩ | ⟨y, z⟩ | ⟨z, y⟩ <;> rw [z] <;> decide
def tokR (t : Nat × Nat × Nat × Nat) : Prop := t.1 < 128 ∧ t.2.2.1 ≤ 1000 ∧ (t.1 = 2 → t.2.1 ≤ 999999) ∧ (t.1 = 3 → t.2.1 < 8) ∧ (t.1 = 4 → t.2.1 < 3) ∧ (t.1 = 13 → t.2.1 = 0)
theorem TK_rng {U : Nat → Nat} {n p w v a e : Nat} (hn : n ≤ 1000) (h : TK U n p w v a e) : tokR (w, v, a, e) := by
  obtain ⟨h1, h2, h3⟩ := h
  unfold tokR
  dsimp only
  rcases h3 with ⟨r1, r2⟩ | ⟨r1, r2, r3⟩
  · omega
  rcases r3 with ⟨h1, h2, h3, h4⟩ | ⟨h1, h2, h3, h4, h5, h6⟩ | ⟨_, _, _, h⟩ | ⟨h1, h2, h3, h4⟩ | ⟨h1, h2, h3, h4, h5⟩ | ⟨_, _, _, _, h⟩ | ⟨_, _, _, h⟩
  · unfold isS at h1; omega
  · have h9 := nmF_lt U a (e - a) (fun j hj => h2.2.1 _ (by omega) (by omega))
    have h10 : 10 ^ (e - a) ≤ 10 ^ 6 := Nat.pow_le_pow_right (by omega) h3
    omega
  · omega
  · have := h1.2.1
    omega
  · have q := wcP_2 (pkF (fun j => U (a + j)) (e - a))
    have q2 := wcP_v (pkF (fun j => U (a + j)) (e - a))
    rw [← h5] at q q2
    unfold wOK at q
    dsimp only at q q2
    omega
  · omega
  · omega
theorem TSK_tk {U : Nat → Nat} {n k i : Nat} {tk : TT} (h : TSK U n k tk) (hi : i ≤ k) : TK U n (st0 (enT tk) i) (tk i).1 (tk i).2.1 (tk i).2.2.1 (tk i).2.2.2 := by
  by_cases z : i = k
  · rw [z]; exact h.2.1
  · exact (h.1 i (by omega)).1
theorem TSK_rng {U : Nat → Nat} {n k i : Nat} {tk : TT} (hn : n ≤ 1000) (h : TSK U n k tk) (hi : i ≤ k) : tokR (tk i) := TK_rng hn (TSK_tk h hi)
theorem TSK_lt {U : Nat → Nat} {n k i : Nat} {tk : TT} (h : TSK U n k tk) (hi : i ≤ k) (hw : 2 ≤ (tk i).1) : i < k := by
  refine Nat.lt_of_le_of_ne hi (fun z => ?_)
  have := h.2.2.1
  rw [z] at hw
  omega
/-! what word stands here -/
theorem RTk.tok {U : Nat → Nat} {σ : HS} {w v a e : Nat} (h : RTk U σ w v a e) : (σ.1 0 0 17 = 0 ↔ w = 0) ∧ (σ.1 0 0 17 = 1 ↔ w = 1) ∧ (σ.1 0 0 17 = 3 ↔ w = 2) ∧ (σ.1 0 0 17 = 4 ↔ w = 3) ∧ (σ.1 0 0 17 = 5 ↔ 18 ≤ w) := by
  rcases h.2.2 with ⟨h1, h2⟩ | ⟨h1, h2⟩ | ⟨h1, h2, _⟩ | ⟨h1, h2, _⟩ | ⟨h1, h1', h2, _⟩ | ⟨h1, h2, _⟩ <;> rw [h2]
  · rw [h1]; decide
  · rw [h1]; decide
  · rw [h1]; decide
  · rw [h1]; decide
  · refine ⟨⟨fun z => absurd z (by decide), fun z => by omega⟩, ⟨fun z => absurd z (by decide), fun z => by omega⟩, ⟨fun z => absurd z (by decide), fun z => by omega⟩, ⟨fun z => absurd z (by decide), fun z => by omega⟩, ⟨fun z => absurd z (by decide), fun z => by omega⟩⟩
  · refine ⟨⟨fun z => absurd z (by decide), fun z => by omega⟩, ⟨fun z => absurd z (by decide), fun z => by omega⟩, ⟨fun z => absurd z (by decide), fun z => by omega⟩, ⟨fun z => absurd z (by decide), fun z => by omega⟩, ⟨fun _ => h1, fun _ => rfl⟩⟩
theorem RTk.word {U : Nat → Nat} {σ : HS} {w v a e : Nat} (h : RTk U σ w v a e) (c w0 : Nat) (hc : c < 2 ^ 63) (h4 : 4 ≤ w0) (h17 : w0 ≤ 17) (hq : ∀ x, (wcP x).1 = w0 ↔ x = c) : (σ.1 0 0 17 = 2 ∧ σ.2 = lN c) ↔ w = w0 := by
  rcases h.2.2 with ⟨h1, h2⟩ | ⟨h1, h2⟩ | ⟨h1, h2, _⟩ | ⟨h1, h2, _⟩ | ⟨h1, h1', h2, x, hx, ex, ew⟩ | ⟨h1, h2, _⟩ <;> rw [h2]
  · exact ⟨fun z => absurd z.1 (by decide), fun z => by omega⟩
  · exact ⟨fun z => absurd z.1 (by decide), fun z => by omega⟩
  · exact ⟨fun z => absurd z.1 (by decide), fun z => by omega⟩
  · exact ⟨fun z => absurd z.1 (by decide), fun z => by omega⟩
  · have e1 : (wcP x).1 = w := by rw [← ew]
    rw [ex, pk_lEQ hx hc, ← hq x, e1]
    exact ⟨fun z => z.2, fun z => ⟨rfl, z⟩⟩
  · exact ⟨fun z => absurd z.1 (by decide), fun z => by omega⟩
theorem RTk.kind {U : Nat → Nat} {σ : HS} {w v a e : Nat} (h : RTk U σ w v a e) (c v0 : Nat) (hc : c < 2 ^ 63) (hq : ∀ x, wcP x = (4, v0) ↔ x = c) : (σ.1 0 0 17 = 2 ∧ σ.2 = lN c) ↔ (w = 4 ∧ v = v0) := by
  rcases h.2.2 with ⟨h1, h2⟩ | ⟨h1, h2⟩ | ⟨h1, h2, _⟩ | ⟨h1, h2, _⟩ | ⟨h1, h1', h2, x, hx, ex, ew⟩ | ⟨h1, h2, _⟩ <;> rw [h2]
  · exact ⟨fun z => absurd z.1 (by decide), fun z => by omega⟩
  · exact ⟨fun z => absurd z.1 (by decide), fun z => by omega⟩
  · exact ⟨fun z => absurd z.1 (by decide), fun z => by omega⟩
  · exact ⟨fun z => absurd z.1 (by decide), fun z => by omega⟩
  · rw [ex, pk_lEQ hx hc, ← hq x, ← ew, Prod.mk.injEq]
    exact ⟨fun z => z.2, fun z => ⟨rfl, z⟩⟩
  · exact ⟨fun z => absurd z.1 (by decide), fun z => by omega⟩
theorem RTk.w6 {U : Nat → Nat} {σ : HS} {w v a e : Nat} (h : RTk U σ w v a e) : (σ.1 0 0 17 = 2 ∧ σ.2 = 2003330414) ↔ w = 6 := h.word 2003330414 6 (by decide) (by decide) (by decide) wcq_6
theorem RTk.w7 {U : Nat → Nat} {σ : HS} {w v a e : Nat} (h : RTk U σ w v a e) : (σ.1 0 0 17 = 2 ∧ σ.2 = 1836021349) ↔ w = 7 := h.word 1836021349 7 (by decide) (by decide) (by decide) wcq_7
theorem RTk.w8 {U : Nat → Nat} {σ : HS} {w v a e : Nat} (h : RTk U σ w v a e) : (σ.1 0 0 17 = 2 ∧ σ.2 = 1718775661) ↔ w = 8 := h.word 1718775661 8 (by decide) (by decide) (by decide) wcq_8
theorem RTk.w9 {U : Nat → Nat} {σ : HS} {w v a e : Nat} (h : RTk U σ w v a e) : (σ.1 0 0 17 = 2 ∧ σ.2 = 29807) ↔ w = 9 := h.word 29807 9 (by decide) (by decide) (by decide) wcq_9
theorem RTk.w10 {U : Nat → Nat} {σ : HS} {w v a e : Nat} (h : RTk U σ w v a e) : (σ.1 0 0 17 = 2 ∧ σ.2 = 28530) ↔ w = 10 := h.word 28530 10 (by decide) (by decide) (by decide) wcq_10
theorem RTk.w11 {U : Nat → Nat} {σ : HS} {w v a e : Nat} (h : RTk U σ w v a e) : (σ.1 0 0 17 = 2 ∧ σ.2 = 6385252) ↔ w = 11 := h.word 6385252 11 (by decide) (by decide) (by decide) wcq_11
theorem RTk.w12 {U : Nat → Nat} {σ : HS} {w v a e : Nat} (h : RTk U σ w v a e) : (σ.1 0 0 17 = 2 ∧ σ.2 = 7237492) ↔ w = 12 := h.word 7237492 12 (by decide) (by decide) (by decide) wcq_12
theorem RTk.w13 {U : Nat → Nat} {σ : HS} {w v a e : Nat} (h : RTk U σ w v a e) : (σ.1 0 0 17 = 2 ∧ σ.2 = 470020945000) ↔ w = 13 := h.word 470020945000 13 (by decide) (by decide) (by decide) wcq_13
theorem RTk.w14 {U : Nat → Nat} {σ : HS} {w v a e : Nat} (h : RTk U σ w v a e) : (σ.1 0 0 17 = 2 ∧ σ.2 = 123580963646565) ↔ w = 14 := h.word 123580963646565 14 (by decide) (by decide) (by decide) wcq_14
theorem RTk.w15 {U : Nat → Nat} {σ : HS} {w v a e : Nat} (h : RTk U σ w v a e) : (σ.1 0 0 17 = 2 ∧ σ.2 = 495874696043) ↔ w = 15 := h.word 495874696043 15 (by decide) (by decide) (by decide) wcq_15
theorem RTk.w16 {U : Nat → Nat} {σ : HS} {w v a e : Nat} (h : RTk U σ w v a e) : (σ.1 0 0 17 = 2 ∧ σ.2 = 7302244) ↔ w = 16 := h.word 7302244 16 (by decide) (by decide) (by decide) wcq_16
theorem RTk.w17 {U : Nat → Nat} {σ : HS} {w v a e : Nat} (h : RTk U σ w v a e) : (σ.1 0 0 17 = 2 ∧ σ.2 = 1919905645) ↔ w = 17 := h.word 1919905645 17 (by decide) (by decide) (by decide) wcq_17
theorem RTk.k0 {U : Nat → Nat} {σ : HS} {w v a e : Nat} (h : RTk U σ w v a e) : (σ.1 0 0 17 = 2 ∧ σ.2 = 469785737829) ↔ (w = 4 ∧ v = 0) := h.kind 469785737829 0 (by decide) wcq_4_0
theorem RTk.k1 {U : Nat → Nat} {σ : HS} {w v a e : Nat} (h : RTk U σ w v a e) : (σ.1 0 0 17 = 2 ∧ σ.2 = 427021005928) ↔ (w = 4 ∧ v = 1) := h.kind 427021005928 1 (by decide) wcq_4_1
theorem RTk.k2 {U : Nat → Nat} {σ : HS} {w v a e : Nat} (h : RTk U σ w v a e) : (σ.1 0 0 17 = 2 ∧ σ.2 = 1835360628) ↔ (w = 4 ∧ v = 2) := h.kind 1835360628 2 (by decide) wcq_4_2
theorem is_ok (d n c w v a e : Nat) (U : Nat → Nat) (σ : HS) (Q : Option AV → HS → Prop) (hd : 1 ≤ d) (hx : RX σ n U) (ha : a ≤ 1000) (ht : RTk U σ w v a e) (hc : 18 ≤ c) (hc2 : c < 128) (h1 : w = c → Q (some (vI 1)) σ) (h0 : w ≠ c → Q (some (vI 0)) σ) : MT d mX11_is [vR 0 0, vI (nI c)] σ Q := by
  refine wX11_is d _ σ Q hd ?_
  rw [ht.tok.2.2.2.2]
  refine ⟨fun z => h0 (fun y => z (by omega)), fun z => ?_⟩
  have eU : U a = w := by
    rcases ht.2.2 with ⟨h1, h2⟩ | ⟨h1, h2⟩ | ⟨h1, h2, _⟩ | ⟨h1, h2, _⟩ | ⟨h1, h1', h2, _⟩ | ⟨h1, h2, h3⟩
    · omega
    · omega
    · omega
    · omega
    · omega
    · exact h3
  have hu := U_lt hx a
  rw [ht.1]
  refine sign_ok (d - 1) n a U σ _ hx (by omega) ⟨_, rfl, ?_⟩
  rw [eU]
  exact And.symm (pk_eq w c (fun z => h1 z) (fun z => h0 z))
