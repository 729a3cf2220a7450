def btF (x : Int32) (q : Nat) : Int32 := i2b (i2b (x >>> (nI (24 - 8 * q) &&& 31)))
theorem i2b_i2b (x : Int32) : i2b (i2b x) = i2b x := Value.int.inj (pk_nb x)
def tS (σ : HS) (b n : Nat) (f : Nat → Int32) : HS := up (upB σ 58 0 b n f) 1 0 4 (nI (b + n))
theorem tS_len {σ : HS} {b n : Nat} {f : Nat → Int32} : (tS σ b n f).1 1 0 4 = nI (b + n) := up_same
theorem tS_ne {σ : HS} {b n : Nat} {f : Nat → Int32} {k : Nat} (h1 : k ≠ 58) (h2 : k ≠ 1) : (tS σ b n f).1 k = σ.1 k := by
  unfold tS
  rw [up_ne h2, upB_ne h1]
theorem tS_succ {σ : HS} {b n : Nat} {f : Nat → Int32} : up (up (tS σ b n f) 58 0 (b + n) (f n)) 1 0 4 (nI (b + (n + 1))) = tS σ b (n + 1) f := by
  unfold tS
  rw [up_comm (show (1 : Nat) ≠ 58 by decide), up_up, upB_succ]
theorem tS_0 {σ : HS} {b : Nat} {f : Nat → Int32} (h : σ.1 1 0 4 = nI b) : tS σ b 0 f = σ := by
  unfold tS
  rw [upB_0]
  exact up_self h
theorem tS_tS {σ : HS} {b n m : Nat} {f g : Nat → Int32} : tS (tS σ b n f) (b + n) m g = tS σ b (n + m) (fun j => if j < n then f j else g (j - n)) := by
  refine hs_ext (fun k i s => ?_) rfl
  simp only [tS, up, upB]
  by_cases e1 : k = 1 ∧ i = 0 ∧ s = 4
  · rw [if_pos e1, if_pos e1, Nat.add_assoc]
  · simp only [if_neg e1]
    by_cases e2 : k = 58 ∧ i = 0
    · obtain ⟨rfl, rfl⟩ := e2
      simp only [true_and]
      by_cases h1 : b + n ≤ s ∧ s < b + n + m
      · rw [if_pos h1, if_pos (by omega), if_neg (by omega)]
        congr 1
        omega
      · rw [if_neg h1]
        by_cases h2 : b ≤ s ∧ s < b + n
        · rw [if_pos h2, if_pos (by omega), if_pos (by omega)]
        · rw [if_neg h2, if_neg (by omega)]
    · rw [if_neg (fun z => e2 ⟨z.1, z.2.1⟩), if_neg (fun z => e2 ⟨z.1, z.2.1⟩), if_neg (fun z => e2 ⟨z.1, z.2.1⟩)]
theorem write_loop (d b : Nat) (x : Int32) (σ : HS) (Q : Option AV → HS → Prop) (hb : b + 4 ≤ 1000) (h : Q none (tS σ b 4 (btF x))) : ∀ m n : Nat, n + m = 4 → atX10_write_3 d Q (tS σ b n (btF x)) x (if n = 4 then -8 else nI (24 - 8 * n)) := by
  intro m
  induction m with
  | zero =>
    intro n hn
    have e : n = 4 := by omega
    subst e
    exact wX10_write_3 d Q _ _ _ ⟨fun _ => h, fun q => absurd (by decide) q⟩
  | succ m ih =>
    intro n hn
    have e : ¬ n = 4 := by omega
    rw [if_neg e]
    refine wX10_write_3 d Q _ _ _ ⟨fun q => absurd q (nI_pos (by omega)), fun _ => ⟨fun q => ?_, fun _ => ?_⟩⟩
    · rw [tS_len] at q
      exact absurd q (nI_ge (a := b + n) (b := 1000) (by omega) (by omega))
    · rw [tS_len, nI_clamp (by omega)]
      refine ⟨vp_in_nI (by omega) (by omega), ?_⟩
      rintro _ rfl _ rfl _ rfl
      have e1 : (up (tS σ b n (btF x)) 58 0 (b + n) (i2b (i2b (x >>> (nI (24 - 8 * n) &&& 31))))).1 1 0 4 + 1 = nI (b + (n + 1)) := by
        rw [up_ne (by decide), tS_len, nI_1]
        rfl
      rw [e1]
      have e2 : up (up (tS σ b n (btF x)) 58 0 (b + n) (i2b (i2b (x >>> (nI (24 - 8 * n) &&& 31))))) 1 0 4 (nI (b + (n + 1))) = tS σ b (n + 1) (btF x) := tS_succ
      rw [e2]
      have e3 : nI (24 - 8 * n) + (-8) = if n + 1 = 4 then -8 else nI (24 - 8 * (n + 1)) := by
        rcases (show n = 0 ∨ n = 1 ∨ n = 2 ∨ n = 3 by omega) with rfl | rfl | rfl | rfl <;> decide
      rw [e3]
      exact ih (n + 1) (by omega)
theorem write_ok (d b : Nat) (x : Int32) (σ : HS) (Q : Option AV → HS → Prop) (hb : b + 4 ≤ 1000) (e : σ.1 1 0 4 = nI b) (h : Q none (tS σ b 4 (btF x))) : MT d mX10_write [vR 1 0, vI x] σ Q := by
  refine wX10_write d x σ Q ?_
  have := write_loop d b x σ Q hb h 4 0 (by omega)
  rw [tS_0 e] at this
  exact this
def fdW (a0 a1 a2 a3 a4 : Int32) (j : Nat) : Int32 := btF (if j < 4 then a0 else if j < 8 then a1 else if j < 12 then a2 else if j < 16 then a3 else a4) (j % 4)
theorem mfeed_loop (d b : Nat) (a0 a1 a2 a3 a4 : Int32) (σ : HS) (Q : Option AV → HS → Prop) (hb : b + 20 ≤ 1000) (e : σ.1 0 0 11 = nI b) (h : Q (some (vI (nI (b + 20)))) (up (upB σ 19 0 b 20 (fdW a0 a1 a2 a3 a4)) 0 0 11 (nI (b + 20)))) : ∀ m j : Nat, j + m = 20 → atX11_feed_18 d Q (upB σ 19 0 b j (fdW a0 a1 a2 a3 a4)) a0 a1 a2 a3 a4 (nI j) := by
  intro m
  induction m with
  | zero =>
    intro j hj
    have e1 : j = 20 := by omega
    subst e1
    refine wX11_feed_18 d Q _ _ _ _ _ _ _ ⟨fun _ => ?_, fun q => absurd (by decide) q⟩
    rintro _ rfl
    have e2 : nI b + 20 = nI (b + 20) := nI_add b 20
    rw [up_same, upB_ne (by decide), e, e2]
    exact h
  | succ m ih =>
    intro j hj
    have k71 : ∀ s0 : Int32, s0 = (if j < 4 then a0 else if j < 8 then a1 else if j < 12 then a2 else if j < 16 then a3 else a4) → atX11_feed_71 d Q (upB σ 19 0 b j (fdW a0 a1 a2 a3 a4)) a0 a1 a2 a3 a4 (nI j) s0 := by
      intro s0 hs
      refine wX11_feed_71 d Q _ _ _ _ _ _ _ _ ?_
      rw [upB_ne (by decide), e, nI_add, nI_clamp (by omega)]
      refine ⟨vp_in_nI (by omega) (by omega), ?_⟩
      rintro _ rfl _ rfl
      have e3 : nI j &&& 3 = nI (j % 4) := pk_andN (n := j) (by omega) 2 (by decide)
      have e4 : (24 : Int32) - 8 * nI (j % 4) = nI (24 - 8 * (j % 4)) := by
        rw [show (8 : Int32) = nI 8 from rfl, pk_mul, show (24 : Int32) = nI 24 from rfl, pk_sub (by omega)]
      rw [e3, e4, nI_1]
      have e5 : i2b (i2b (s0 >>> (nI (24 - 8 * (j % 4)) &&& 31))) = fdW a0 a1 a2 a3 a4 j := by rw [hs]; rfl
      rw [e5, upB_succ]
      exact ih (j + 1) (by omega)
    refine wX11_feed_18 d Q _ _ _ _ _ _ _ ⟨fun q => absurd q (nI_ge (a := j) (b := 20) (by omega) (by omega)), fun _ => ⟨fun q => ⟨fun q2 => ⟨fun q3 => ⟨fun q4 => k71 _ ?_, fun q4 => k71 _ ?_⟩, fun q3 => k71 _ ?_⟩, fun q2 => k71 _ ?_⟩, fun q => k71 _ ?_⟩⟩
    · have := (nI_leI (a := 16) (b := j) (by omega) (by omega)).mp q4
      rw [if_neg (by omega), if_neg (by omega), if_neg (by omega), if_neg (by omega)]
    · have := (nI_leI (a := 12) (b := j) (by omega) (by omega)).mp q3
      have := Nat.lt_of_not_le (fun z => q4 (nI_le (a := 16) (b := j) z (by omega)))
      rw [if_neg (by omega), if_neg (by omega), if_neg (by omega), if_pos (by omega)]
    · have := (nI_leI (a := 8) (b := j) (by omega) (by omega)).mp q2
      have := Nat.lt_of_not_le (fun z => q3 (nI_le (a := 12) (b := j) z (by omega)))
      rw [if_neg (by omega), if_neg (by omega), if_pos (by omega)]
    · have := (nI_leI (a := 4) (b := j) (by omega) (by omega)).mp q
      have := Nat.lt_of_not_le (fun z => q2 (nI_le (a := 8) (b := j) z (by omega)))
      rw [if_neg (by omega), if_pos (by omega)]
    · have := Nat.lt_of_not_le (fun z => q (nI_le (a := 4) (b := j) z (by omega)))
      rw [if_pos (by omega)]
theorem upB_cong2 {σ : HS} {b n : Nat} {f g : Nat → Int32} (h : ∀ j, j < n → f j = g j) : tS σ b n f = tS σ b n g := by
  unfold tS
  rw [upB_cong h]
theorem st_feed (a0 a1 a2 a3 a4 : Int32) : Step mX10_feed mX11_feed [vI a0, vI a1, vI a2, vI a3, vI a4] := by
  intro σ hI
  have hI0 := hI
  obtain ⟨h1, h2, h3, h4, h5, h6, h7, h8, h9, h10, h11, h12, h13, h14⟩ := hI
  obtain ⟨b, hb, t1, t2, t3⟩ := id h9
  have e20 : nI b + 20 = nI (b + 20) := nI_add b 20
  refine wX10_feed 60 a0 a1 a2 a3 a4 σ _ (by decide) ⟨fun q => ?_, fun q => step_of (wX11_feed 60 _ _ _ _ _ σ _ ⟨fun q2 => absurd (by rw [t2, ← t1]; exact q2) q, fun _ => ⟨rfl, hI0⟩⟩)⟩
  have q' := q
  rw [t2, e20] at q'
  have hb2 : b + 20 ≤ 1000 := (nI_leI (a := b + 20) (b := 1000) (by omega) (by omega)).mp q'
  refine write_ok 59 b a0 σ _ (by omega) t2 ⟨rfl, write_ok 59 (b + 4) a1 _ _ (by omega) tS_len ⟨rfl, ?_⟩⟩
  rw [tS_tS]
  refine write_ok 59 (b + 8) a2 _ _ (by omega) tS_len ⟨rfl, ?_⟩
  have s8 : b + 8 = b + (4 + 4) := rfl
  rw [s8, tS_tS]
  refine write_ok 59 (b + 12) a3 _ _ (by omega) tS_len ⟨rfl, ?_⟩
  have s12 : b + 12 = b + (4 + 4 + 4) := rfl
  rw [s12, tS_tS]
  refine write_ok 59 (b + 16) a4 _ _ (by omega) tS_len ⟨rfl, ?_⟩
  have s16 : b + 16 = b + (4 + 4 + 4 + 4) := rfl
  rw [s16, tS_tS]
  have eF : ∀ j, j < 20 → (if j < 4 + 4 + 4 + 4 then (if j < 4 + 4 + 4 then (if j < 4 + 4 then (if j < 4 then btF a0 j else btF a1 (j - 4)) else btF a2 (j - (4 + 4))) else btF a3 (j - (4 + 4 + 4))) else btF a4 (j - (4 + 4 + 4 + 4))) = fdW a0 a1 a2 a3 a4 j := by
    intro j hj
    unfold fdW
    by_cases z1 : j < 4
    · rw [if_pos (by omega), if_pos (by omega), if_pos (by omega), if_pos z1, if_pos z1, Nat.mod_eq_of_lt z1]
    · by_cases z2 : j < 8
      · rw [if_pos (by omega), if_pos (by omega), if_pos (by omega), if_neg z1, if_neg z1, if_pos z2]
        congr 1
        omega
      · by_cases z3 : j < 12
        · rw [if_pos (by omega), if_pos (by omega), if_neg (by omega), if_neg z1, if_neg z2, if_pos z3]
          congr 1
          omega
        · by_cases z4 : j < 16
          · rw [if_pos (by omega), if_neg (by omega), if_neg z1, if_neg z2, if_neg z3, if_pos z4]
            congr 1
            omega
          · rw [if_neg (by omega), if_neg z1, if_neg z2, if_neg z3, if_neg z4]
            congr 1
            omega
  have eT : tS σ b (4 + 4 + 4 + 4 + 4) (fun j => if j < 4 + 4 + 4 + 4 then (if j < 4 + 4 + 4 then (if j < 4 + 4 then (if j < 4 then btF a0 j else btF a1 (j - 4)) else btF a2 (j - (4 + 4))) else btF a3 (j - (4 + 4 + 4))) else btF a4 (j - (4 + 4 + 4 + 4))) = tS σ b 20 (fdW a0 a1 a2 a3 a4) := upB_cong2 eF
  rw [eT, tS_len]
  have em : (tS σ b 20 (fdW a0 a1 a2 a3 a4)).1 0 0 11 = nI b := by rw [tS_ne (by decide) (by decide)]; exact t1
  refine step_of (wX11_feed 60 _ _ _ _ _ _ _ ⟨fun _ => ?_, fun q2 => absurd (by rw [em, e20]; exact q') q2⟩)
  have lp := mfeed_loop 60 b a0 a1 a2 a3 a4 (tS σ b 20 (fdW a0 a1 a2 a3 a4)) (PostS (nI (b + 20))) hb2 em ⟨rfl, ?_⟩ 20 0 (by omega)
  · rw [upB_0] at lp
    exact lp
  · unfold tS
    refine ⟨by simpa [I1, up_ne, up_k, upB_ne] using h1, by simpa [I2, up_ne, up_k, upB_ne] using h2, by simpa [I3, up_ne, up_k, upB_ne] using h3, by simpa [I4, up_ne, up_k, upB_ne] using h4, by simpa [I5, up_ne, up_k, upB_ne] using h5, by simpa [I6, up_ne, up_k, upB_ne] using h6, by simpa [I7, up_ne, up_k, upB_ne] using h7, by simpa [I8, up_ne, up_k, upB_ne] using h8, ?_, by simpa [I10, up_ne, up_k, upB_ne] using h10, by simpa [I11, up_ne, up_k, upB_ne] using h11, by simpa [I12, up_ne, up_k, upB_ne] using h12, by simpa [I13, up_ne, up_k, upB_ne] using h13, by simpa [I14, up_ne, up_k, upB_ne] using h14⟩
    refine ⟨b + 20, hb2, up_same, ?_, fun j hj => ?_⟩
    · rw [up_ne (by decide), upB_ne (by decide), up_same]
    · rw [up_ne (by decide), up_ne (by decide), upB_ne (by decide), up_ne (by decide), upB_k, upB_k, up_ne (by decide), upB_ne (by decide)]
      by_cases z : b ≤ j
      · rw [if_pos ⟨rfl, z, hj⟩, if_pos ⟨rfl, z, hj⟩]
        refine ⟨rfl, ?_⟩
        unfold fdW btF
        exact i2b_i2b _
      · rw [if_neg (fun w => z w.2.1), if_neg (fun w => z w.2.1)]
        exact t3 j (by omega)
