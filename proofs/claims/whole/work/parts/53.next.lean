/-! the reference's next token -/
def Fr (c : Nat → Nat → Nat → Bool) (σ σ2 : HS) : Prop := ∀ k i s, c k i s = false → σ2.1 k i s = σ.1 k i s
theorem Fr.rf {c : Nat → Nat → Nat → Bool} {σ : HS} : Fr c σ σ := fun _ _ _ _ => rfl
theorem Fr.tr {c : Nat → Nat → Nat → Bool} {σ σ2 σ3 : HS} (h1 : Fr c σ σ2) (h2 : Fr c σ2 σ3) : Fr c σ σ3 := fun k i s h => (h2 k i s h).trans (h1 k i s h)
theorem Fr.up {c : Nat → Nat → Nat → Bool} {σ σ2 : HS} {k i s : Nat} {x : Int32} (h : Fr c σ σ2) (hs : c k i s = true) : Fr c σ (up σ2 k i s x) := by
  intro k' i' s' h'
  show (if _ then _ else _) = _
  rw [if_neg (fun z => by rw [z.1, z.2.1, z.2.2, hs] at h'; cases h')]
  exact h k' i' s' h'
theorem Fr.mono {c c2 : Nat → Nat → Nat → Bool} {σ σ2 : HS} (h : Fr c σ σ2) (hc : ∀ k i s, c2 k i s = false → c k i s = false) : Fr c2 σ σ2 := fun k i s h' => h k i s (hc k i s h')
theorem up_f {σ : HS} {k i s s' i' : Nat} {x : Int32} (h : s' ≠ s) : (up σ k i s x).1 k i' s' = σ.1 k i' s' := by
  show (if _ then _ else _) = _
  rw [if_neg (fun z => h z.2.2)]
def cN (k _i s : Nat) : Bool := Nat.beq k 0 && (Nat.beq s 15 || Nat.beq s 16 || Nat.beq s 17 || Nat.beq s 18)
def RX (σ : HS) (n : Nat) (U : Nat → Nat) : Prop := n ≤ 1000 ∧ σ.1 0 0 12 = nI n ∧ (∀ j, j < n → BY (σ.1 20 0 j) (U j)) ∧ ∀ j, n ≤ j → U j = 0
theorem RX.fr {c : Nat → Nat → Nat → Bool} {σ σ2 : HS} {n : Nat} {U : Nat → Nat} (h : RX σ n U) (f : Fr c σ σ2) (h1 : c 0 0 12 = false) (h2 : ∀ s, c 20 0 s = false) : RX σ2 n U := by
  refine ⟨h.1, ?_, fun j hj => ?_, h.2.2.2⟩
  · rw [f 0 0 12 h1]; exact h.2.1
  · rw [f 20 0 j (h2 j)]; exact h.2.2.1 j hj
theorem sign_ok (d n j : Nat) (U : Nat → Nat) (σ : HS) (Q : Option AV → HS → Prop) (hx : RX σ n U) (hj : j < 2 ^ 31) (h : Q (some (vI (nI (U j)))) σ) : MT d mX11_sign [vR 0 0, vI (nI j)] σ Q := by
  obtain ⟨hn, h1, h2, h3⟩ := hx
  refine wX11_sign d _ σ Q ?_
  rw [h1]
  refine ⟨fun z => ?_, fun z => ?_⟩
  · rw [h3 j ((nI_leI (by omega) hj).mp z)] at h
    exact h
  · have z' : j < n := Nat.lt_of_not_le (fun x => z (nI_le x hj))
    refine ⟨vp_in_nI (by omega) (by omega), ?_⟩
    rw [nI_clamp hj, (h2 j z').2.1]
    exact h
/-- the reference stands at a token -/
def RTk (U : Nat → Nat) (σ : HS) (w v a e : Nat) : Prop := σ.1 0 0 15 = nI a ∧ (2 ≤ w → σ.1 0 0 16 = nI e) ∧
  ((w = 0 ∧ σ.1 0 0 17 = 0) ∨ (w = 1 ∧ σ.1 0 0 17 = 1) ∨ (w = 2 ∧ σ.1 0 0 17 = 3 ∧ σ.1 0 0 18 = nI v) ∨ (w = 3 ∧ σ.1 0 0 17 = 4 ∧ σ.1 0 0 18 = nI v) ∨
   (4 ≤ w ∧ w ≤ 17 ∧ σ.1 0 0 17 = 2 ∧ ∃ x, x < 2 ^ 63 ∧ σ.2 = lN x ∧ (w, v) = wcP x) ∨ (18 ≤ w ∧ σ.1 0 0 17 = 5 ∧ U a = w))
def PN (σ0 : HS) (n : Nat) (U : Nat → Nat) (a : Nat) (σ : HS) : Prop := RX σ n U ∧ σ.1 0 0 15 = nI a ∧ Fr cN σ0 σ
theorem PN.end {σ0 σ : HS} {n a : Nat} {U : Nat → Nat} {x : Int32} (h : PN σ0 n U a σ) : PN σ0 n U a (up σ 0 0 16 x) :=
  ⟨h.1.fr (c := cN) (Fr.rf.up rfl) rfl (fun _ => rfl), by rw [up_f (by decide)]; exact h.2.1, h.2.2.up rfl⟩
theorem PN.token {σ0 σ : HS} {n a : Nat} {U : Nat → Nat} {x : Int32} (h : PN σ0 n U a σ) : PN σ0 n U a (up σ 0 0 17 x) :=
  ⟨h.1.fr (c := cN) (Fr.rf.up rfl) rfl (fun _ => rfl), by rw [up_f (by decide)]; exact h.2.1, h.2.2.up rfl⟩
theorem PN.number {σ0 σ : HS} {n a : Nat} {U : Nat → Nat} {x : Int32} (h : PN σ0 n U a σ) : PN σ0 n U a (up σ 0 0 18 x) :=
  ⟨h.1.fr (c := cN) (Fr.rf.up rfl) rfl (fun _ => rfl), by rw [up_f (by decide)]; exact h.2.1, h.2.2.up rfl⟩
theorem PN.at {σ0 σ : HS} {n a b : Nat} {U : Nat → Nat} (h : PN σ0 n U a σ) : PN σ0 n U b (up σ 0 0 15 (nI b)) :=
  ⟨h.1.fr (c := cN) (Fr.rf.up rfl) rfl (fun _ => rfl), up_same, h.2.2.up rfl⟩
theorem PN.name {σ0 σ : HS} {n a : Nat} {U : Nat → Nat} {x : Int64} (h : PN σ0 n U a σ) : PN σ0 n U a (σ.1, x) := h
theorem lN_push {y u : Nat} (hy : y < 2 ^ 55) (hu : u < 256) : (lN y <<< (Int32.toInt64 8 &&& 63)) ||| (Int32.toInt64 (nI u)) = lN (y * 256 + u) := by
  have e1 : (lN y <<< (Int32.toInt64 8 &&& 63)).toBitVec.toNat = y * 256 := by
    show ((lN y).toBitVec <<< ((Int32.toInt64 8 &&& 63).toBitVec.smod 64).toNat).toNat = _
    rw [show ((Int32.toInt64 8 &&& 63).toBitVec.smod 64).toNat = 8 by decide +kernel, BitVec.toNat_shiftLeft, Nat.shiftLeft_eq]
    have : (lN y).toBitVec.toNat = y := Nat.mod_eq_of_lt (show y < 2 ^ 64 by omega)
    rw [this]
    exact Nat.mod_eq_of_lt (by omega)
  have e2 : (Int32.toInt64 (nI u)).toBitVec.toNat = u := by
    rw [nI_l (by omega)]
    exact Nat.mod_eq_of_lt (show u < 2 ^ 64 by omega)
  refine Int64.toBitVec_inj.mp (BitVec.eq_of_toNat_eq ?_)
  rw [Int64.toBitVec_or, BitVec.toNat_or, e1, e2]
  have e3 : (lN (y * 256 + u)).toBitVec.toNat = y * 256 + u := Nat.mod_eq_of_lt (show y * 256 + u < 2 ^ 64 by omega)
  rw [e3]
  have := Nat.shiftLeft_add_eq_or_of_lt (i := 8) (b := u) (by omega) y
  rw [Nat.shiftLeft_eq] at this
  exact this.symm
theorem pkF_lt7 {g : Nat → Nat} : ∀ {m : Nat}, (∀ j, j < m + 1 → g j < 128) → pkF g (m + 1) < 128 * 256 ^ m
  | 0, h => by
    have := h 0 (by omega)
    simp only [pkF]
    omega
  | m + 1, h => by
    have h1 := pkF_lt7 (m := m) (fun j hj => h j (by omega))
    have h2 := h (m + 1) (by omega)
    have e : pkF g (m + 1 + 1) = pkF g (m + 1) * 256 + g (m + 1) := rfl
    rw [e, Nat.pow_succ]
    omega
theorem pkF_8 {g : Nat → Nat} {m : Nat} (hm : m ≤ 8) (h : ∀ j, j < m → g j < 128) : pkF g m < 2 ^ 63 := by
  cases m with
  | zero => exact Nat.two_pow_pos 63
  | succ m =>
    have h1 := pkF_lt7 h
    have h2 : 256 ^ m ≤ 256 ^ 7 := Nat.pow_le_pow_right (by omega) (by omega)
    omega
theorem pkF_7 {g : Nat → Nat} {m : Nat} (hm : m ≤ 6) (h : ∀ j, j < m → g j < 256) : pkF g m < 2 ^ 55 := by
  have h1 := pkF_lt h
  have h2 : 256 ^ m ≤ 256 ^ 6 := Nat.pow_le_pow_right (by omega) hm
  omega
theorem pkF_77 {g : Nat → Nat} {m : Nat} (hm : m ≤ 7) (h : ∀ j, j < m → g j < 128) : pkF g m < 2 ^ 55 := by
  cases m with
  | zero => exact Nat.two_pow_pos 55
  | succ m =>
    have h1 := pkF_lt7 h
    have h2 : 256 ^ m ≤ 256 ^ 6 := Nat.pow_le_pow_right (by omega) (by omega)
    omega
theorem TB_town {U : Nat → Nat} {a w v e : Nat} (h : TB U a w v e) (t : twn U a) : w = 3 ∧ v = U (a + 1) - 48 ∧ e = a + 2 := by
  have t1 := t.1
  rcases h with ⟨h1, _⟩ | ⟨h1, _⟩ | ⟨h1, _⟩ | ⟨_, h2, h3, h4⟩ | ⟨_, h2, _⟩ | ⟨_, h2, _⟩ | ⟨_, _, h3, _⟩
  · unfold isS at h1; omega
  · unfold isD at h1; omega
  · unfold isD at h1; omega
  · exact ⟨h2, h3, h4⟩
  · exact absurd t h2
  · exact absurd t h2
  · exact absurd (show isL (U a) by unfold isL; omega) h3
/-- digits -/
theorem next_num (d n a e w v : Nat) (U : Nat → Nat) (σ0 : HS) (Q : Option AV → HS → Prop) (hd : 2 ≤ d) (ha : a < n) (hr : RUN U isD a e) (he : e ≤ n)
    (hw : (e - a ≤ 6 ∧ ¬ isL (U e) ∧ w = 2 ∧ v = nmF U a (e - a)) ∨ ((6 < e - a ∨ isL (U e)) ∧ w = 1)) (h : ∀ σ2, RTk U σ2 w v a e → Fr cN σ0 σ2 → Q none σ2) :
    ∀ f m σ, a + m + f = e → PN σ0 n U a σ → σ.1 0 0 16 = nI (a + m) → σ.1 0 0 18 = nI (nmF U a (min m 6)) → atX11_next_348 d Q σ := by
  intro f
  induction f with
  | zero =>
    intro m σ hm hp h1 h2
    have hn := hp.1.1
    have em : a + m = e := by omega
    have es : nI (a + m) - nI a = nI m := by rw [pk_sub (by omega), Nat.add_sub_cancel_left]
    refine wX11_next_348 d Q σ (by omega) ?_
    rw [h1]
    refine sign_ok (d - 1) n (a + m) U σ _ hp.1 (by omega) ⟨_, rfl, fun _ => ?_, fun z => ?_⟩
    · rw [h1, hp.2.1, es]
      refine pk_lt 6 m (fun z => ?_) (fun z => ?_)
      · rintro _ rfl
        rcases hw with q | q
        · omega
        · exact h _ ⟨hp.token.2.1, fun z => by omega, Or.inr (Or.inl ⟨q.2, up_same⟩)⟩ hp.token.2.2
      · refine sign_ok (d - 1) n (a + m) U σ _ hp.1 (by omega) ⟨_, rfl, fun y => ?_, fun y => ?_⟩
        · rintro _ rfl
          have y' : ¬ isL (U e) := fun t => y (em ▸ ⟨nI_le (a := 97) t.1 (by unfold isL at t; omega), nI_le (b := 122) t.2 (by omega)⟩)
          rcases hw with q | q
          · refine h _ ⟨hp.token.2.1, fun _ => ?_, Or.inr (Or.inr (Or.inl ⟨q.2.2.1, up_same, ?_⟩))⟩ hp.token.2.2
            · rw [up_f (by decide), h1, em]
            · rw [up_f (by decide), h2, q.2.2.2, Nat.min_eq_left (by omega), show e - a = m by omega]
          · rcases q.1 with q1 | q1
            · omega
            · exact absurd q1 y'
        · rintro _ rfl
          have hu : U (a + m) < 2 ^ 31 := by
            by_cases z2 : a + m < n
            · have := (hp.1.2.2.1 (a + m) z2).1
              omega
            · rw [hp.1.2.2.2 (a + m) (by omega)]
              omega
          have y' : isL (U e) := em ▸ ⟨(nI_leI (a := 97) (by omega) hu).mp y.1, (nI_leI (b := 122) hu (by omega)).mp y.2⟩
          rcases hw with q | q
          · exact absurd y' q.2.1
          · exact h _ ⟨hp.token.2.1, fun z => by omega, Or.inr (Or.inl ⟨q.2, up_same⟩)⟩ hp.token.2.2
    · have hu : U (a + m) < 2 ^ 31 := by
        by_cases z2 : a + m < n
        · have := (hp.1.2.2.1 (a + m) z2).1
          omega
        · rw [hp.1.2.2.2 (a + m) (by omega)]
          omega
      exact absurd (show isD (U e) from em ▸ ⟨(nI_leI (a := 48) (by omega) hu).mp z.1, (nI_leI (b := 57) hu (by omega)).mp z.2⟩) hr.2.2
  | succ f ih =>
    intro m σ hm hp h1 h2
    have hn := hp.1.1
    have es : nI (a + m) - nI a = nI m := by rw [pk_sub (by omega), Nat.add_sub_cancel_left]
    have hD := hr.2.1 (a + m) (by omega) (by omega)
    have hD' := hD
    unfold isD at hD'
    refine wX11_next_348 d Q σ (by omega) ?_
    rw [h1]
    refine sign_ok (d - 1) n (a + m) U σ _ hp.1 (by omega) ⟨_, rfl, fun z => absurd ⟨nI_le (a := 48) hD'.1 (by omega), nI_le (b := 57) hD'.2 (by omega)⟩ z, fun _ => ?_⟩
    rw [h1, hp.2.1, es]
    refine pk_le 6 m (fun z => ?_) (fun z => ?_)
    · rintro _ rfl
      rw [nI_1]
      refine ih (m + 1) _ (by omega) hp.end (by rw [up_same, Nat.add_assoc]) ?_
      rw [up_f (by decide), h2, Nat.min_eq_right z, Nat.min_eq_right (by omega)]
    · refine sign_ok (d - 1) n (a + m) U σ _ hp.1 (by omega) ⟨_, rfl, ?_⟩
      rintro _ rfl _ rfl
      rw [up_f (by decide), h1, nI_1]
      refine ih (m + 1) _ (by omega) hp.number.end (by rw [up_same, Nat.add_assoc]) ?_
      rw [up_f (by decide), up_same, h2, show (10 : Int32) = nI 10 from rfl, pk_mul, nI_add, show (48 : Int32) = nI 48 from rfl, pk_sub (by omega), Nat.min_eq_left (by omega), Nat.min_eq_left (by omega)]
      congr 1
      simp only [nmF]
      omega
/-- letters: the word as a number -/
theorem next_pack (d n a e w v : Nat) (U : Nat → Nat) (σ0 : HS) (Q : Option AV → HS → Prop) (hd : 2 ≤ d) (ha : a < n) (hr : RUN U isL a e) (he : e ≤ n)
    (hw : (e - a ≤ 8 ∧ (w, v) = wcP (pkF (fun j => U (a + j)) (e - a))) ∨ (8 < e - a ∧ w = 1)) (h : ∀ σ2, RTk U σ2 w v a e → Fr cN σ0 σ2 → Q none σ2) :
    ∀ f m σ, m + f = min (e - a) 8 → PN σ0 n U a σ → σ.1 0 0 16 = nI e → σ.2 = lN (pkF (fun j => U (a + j)) m) → atX11_next_259 d Q σ (nI (a + m)) := by
  intro f m
  induction f generalizing m with
  | zero =>
    intro σ hm hp h1 h2
    have hn := hp.1.1
    have hae := hr.1
    have es : nI e - nI a = nI (e - a) := pk_sub (by omega)
    have e8 : nI a + 8 = nI (a + 8) := nI_add a 8
    have fin : (nI (e - a) ≤ 8 → (∀ σ_175 : HS, σ_175 = up σ 0 0 17 2 → Q none σ_175)) ∧ (¬ nI (e - a) ≤ 8 → (∀ σ_177 : HS, σ_177 = up σ 0 0 17 1 → Q none σ_177)) := by
      refine pk_le (e - a) 8 (fun z => ?_) (fun z => ?_)
      · rintro _ rfl
        rcases hw with q | q
        · rw [Nat.min_eq_left z] at hm
          have hb := pkF_8 (g := fun j => U (a + j)) (m := m) (by omega) (fun j hj => by have := hr.2.1 (a + j) (by omega) (by omega); unfold isL at this; show U (a + j) < 128; omega)
          have hW := wcP_2 (pkF (fun j => U (a + j)) (e - a))
          rw [← q.2] at hW
          refine h _ ⟨hp.token.2.1, fun _ => by rw [up_f (by decide), h1], Or.inr (Or.inr (Or.inr (Or.inr (Or.inl ⟨hW.1, hW.2.1, up_same, _, hb, ?_, ?_⟩))))⟩ hp.token.2.2
          · exact h2
          · rw [q.2, show e - a = m by omega]
        · omega
      · rintro _ rfl
        rcases hw with q | q
        · omega
        · exact h _ ⟨hp.token.2.1, fun z => by omega, Or.inr (Or.inl ⟨q.2, up_same⟩)⟩ hp.token.2.2
    refine wX11_next_259 d Q σ _ (by omega) ?_
    rw [h1, hp.2.1, es, e8]
    refine ⟨fun _ => fin, fun z => ⟨fun _ => fin, fun y => ?_⟩⟩
    have z' := Nat.lt_of_not_le (fun x => z (nI_le x (by omega)))
    have y' := Nat.lt_of_not_le (fun x => y (nI_le x (by omega)))
    omega
  | succ f ih =>
    intro σ hm hp h1 h2
    have hn := hp.1.1
    have e8 : nI a + 8 = nI (a + 8) := nI_add a 8
    refine wX11_next_259 d Q σ _ (by omega) ?_
    rw [h1, hp.2.1, e8]
    refine ⟨fun z => absurd z (nI_ge (by omega) (by omega)), fun _ => ⟨fun z => absurd z (nI_ge (by omega) (by omega)), fun _ => ?_⟩⟩
    refine sign_ok (d - 1) n (a + m) U σ _ hp.1 (by omega) ⟨_, rfl, ?_⟩
    rintro _ rfl _ rfl
    have hL : ∀ j, j < m + 1 → (fun j => U (a + j)) j < 128 := fun j hj => by have := hr.2.1 (a + j) (by omega) (by omega); unfold isL at this; show U (a + j) < 128; omega
    have hb := pkF_77 (g := fun j => U (a + j)) (m := m) (by omega) (fun j hj => hL j (by omega))
    rw [h2, lN_push hb (by have : U (a + m) < 128 := hL m (by omega); omega), nI_1]
    exact ih (m + 1) _ (by omega) hp.name h1 rfl
theorem next_let (d n a e w v : Nat) (U : Nat → Nat) (σ0 : HS) (Q : Option AV → HS → Prop) (hd : 2 ≤ d) (ha : a < n) (hr : RUN U isL a e) (he : e ≤ n)
    (hw : (e - a ≤ 8 ∧ (w, v) = wcP (pkF (fun j => U (a + j)) (e - a))) ∨ (8 < e - a ∧ w = 1)) (h : ∀ σ2, RTk U σ2 w v a e → Fr cN σ0 σ2 → Q none σ2) :
    ∀ f q σ, q + f = e → a ≤ q → PN σ0 n U a σ → σ.1 0 0 16 = nI q → atX11_next_222 d Q σ := by
  intro f
  induction f with
  | zero =>
    intro q σ hq haq hp h1
    have hn := hp.1.1
    have eq' : q = e := by omega
    subst eq'
    have hu : U q < 2 ^ 31 := by
      by_cases z2 : q < n
      · have := (hp.1.2.2.1 q z2).1
        omega
      · rw [hp.1.2.2.2 q (by omega)]
        omega
    refine wX11_next_222 d Q σ (by omega) ?_
    rw [h1]
    refine sign_ok (d - 1) n q U σ _ hp.1 (by omega) ⟨_, rfl, fun _ => ?_, fun z => absurd (show isL (U q) from ⟨(nI_leI (a := 97) (by omega) hu).mp z.1, (nI_leI (b := 122) hu (by omega)).mp z.2⟩) hr.2.2⟩
    rintro _ rfl _ rfl
    have hp2 := hp.name (x := 0)
    rw [hp2.2.1]
    exact next_pack d n a q w v U σ0 Q hd ha hr he hw h (min (q - a) 8) 0 _ (by omega) hp2 h1 rfl
  | succ f ih =>
    intro q σ hq haq hp h1
    have hn := hp.1.1
    have hL := hr.2.1 q (by omega) (by omega)
    have hL' := hL
    unfold isL at hL'
    refine wX11_next_222 d Q σ (by omega) ?_
    rw [h1]
    refine sign_ok (d - 1) n q U σ _ hp.1 (by omega) ⟨_, rfl, fun z => absurd ⟨nI_le (a := 97) hL'.1 (by omega), nI_le (b := 122) hL'.2 (by omega)⟩ z, fun _ => ?_⟩
    rintro _ rfl
    rw [h1, nI_1]
    exact ih (q + 1) _ (by omega) (by omega) hp.end up_same
