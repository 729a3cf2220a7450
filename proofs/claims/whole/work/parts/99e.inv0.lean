/-! the start: what couples class and reference holds at first -/
theorem z_isN (n : Nat) : isN 0 n := ⟨0, Nat.zero_le _, rfl⟩
theorem z_sm (f : Nat → Nat) (h : ∀ i, f i = 0) : ∀ n, sm f n = 0 := by
  intro n
  induction n with
  | zero => rfl
  | succ n ih => show sm f n + f n = 0; rw [ih, h n]
theorem days0 : ∀ a, a < 8 → ∀ b, b < 8 → s0f 61 a b = s0f 15 0 (8 * a + b) ∧ (a = b → s0f 15 0 (8 * a + b) = 0) ∧ (a ≠ b → s0f 15 0 (8 * a + b) = -1) := by decide +kernel
theorem inv0 : Inv hs0 := by
  have z0 : (0 : Int32) = nI 0 := rfl
  refine ⟨⟨0, by decide, rfl, rfl, fun _ _ _ => rfl⟩, ⟨0, by decide, rfl, rfl⟩, fun t _ => ⟨z_isN _, z_isN _, z_isN _, rfl, rfl, rfl⟩, fun a b ha hb => ?_, ?_, ⟨fun _ _ => z_isN _, fun _ _ _ _ => rfl, fun t k _ _ => ?_, fun t _ => ?_⟩, ⟨rfl, rfl, rfl, rfl⟩, ⟨0, by decide, rfl, rfl, fun j hj => absurd hj (Nat.not_lt_zero j)⟩, ⟨0, by decide, rfl, rfl, fun j hj => absurd hj (Nat.not_lt_zero j)⟩,
    ⟨0, 0, 0, fun _ => 0, by decide, by decide, by decide, rfl, rfl, rfl, rfl, rfl, rfl, by decide, fun j hj => absurd hj (Nat.not_lt_zero j), fun j hj => absurd hj (Nat.not_lt_zero j)⟩, ⟨rfl, rfl⟩, ⟨0, by decide, rfl, rfl, fun j hj => absurd hj (Nat.not_lt_zero j)⟩, ⟨rfl, z_isN _, fun _ _ => rfl⟩, ⟨0, by decide, rfl, rfl, fun j hj => absurd hj (Nat.not_lt_zero j)⟩⟩
  · obtain ⟨h1, h2, h3⟩ := days0 a ha b hb
    exact ⟨h1, h2, fun h => Or.inl (h3 h)⟩
  · exact f_s (f_s (f_s f_0 ⟨rfl, 12, by decide, by decide, rfl⟩) ⟨rfl, 60, by decide, by decide, rfl⟩) ⟨rfl, 24, by decide, by decide, rfl⟩
  · have e1 : sm (fun a => vN (hs0.1 17 0 (61 * (3 * t + k) + a))) 61 = 0 := z_sm _ (fun i => rfl) 61
    rw [e1]; rfl
  · have e1 : sm (fun j => vN (hs0.1 17 0 (183 * t + j))) 183 = 0 := z_sm _ (fun i => rfl) 183
    rw [e1]; exact Nat.zero_le _
