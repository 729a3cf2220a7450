theorem isSign_ok (d : Nat) (x : Int32) (u : Nat) (σ : HS) (Q : Option AV → HS → Prop) (hb : BY x u) (h1 : isS u → Q (some (vI 1)) σ) (h0 : ¬ isS u → Q (some (vI 0)) σ) : MT d mX8_isSign [vI x] σ Q := by
  refine wX8_isSign d _ σ Q ?_
  have e := fun c (hc : c < 128) => hb.eqI (c := c) hc
  have q40 : x = 40 ↔ u = 40 := e 40 (by omega)
  have q41 : x = 41 ↔ u = 41 := e 41 (by omega)
  have q42 : x = 42 ↔ u = 42 := e 42 (by omega)
  have q43 : x = 43 ↔ u = 43 := e 43 (by omega)
  have q44 : x = 44 ↔ u = 44 := e 44 (by omega)
  have q45 : x = 45 ↔ u = 45 := e 45 (by omega)
  have q46 : x = 46 ↔ u = 46 := e 46 (by omega)
  have q47 : x = 47 ↔ u = 47 := e 47 (by omega)
  have q48 : x = 48 ↔ u = 48 := e 48 (by omega)
  have q49 : x = 49 ↔ u = 49 := e 49 (by omega)
  have q50 : x = 50 ↔ u = 50 := e 50 (by omega)
  have q51 : x = 51 ↔ u = 51 := e 51 (by omega)
  have q52 : x = 52 ↔ u = 52 := e 52 (by omega)
  have q53 : x = 53 ↔ u = 53 := e 53 (by omega)
  have q54 : x = 54 ↔ u = 54 := e 54 (by omega)
  have q55 : x = 55 ↔ u = 55 := e 55 (by omega)
  have q56 : x = 56 ↔ u = 56 := e 56 (by omega)
  have q57 : x = 57 ↔ u = 57 := e 57 (by omega)
  have q58 : x = 58 ↔ u = 58 := e 58 (by omega)
  have q59 : x = 59 ↔ u = 59 := e 59 (by omega)
  have q60 : x = 60 ↔ u = 60 := e 60 (by omega)
  have q61 : x = 61 ↔ u = 61 := e 61 (by omega)
  have q62 : x = 62 ↔ u = 62 := e 62 (by omega)
  rw [q40, q41, q42, q43, q44, q45, q46, q47, q48, q49, q50, q51, q52, q53, q54, q55, q56, q57, q58, q59, q60, q61, q62]
  by_cases t : isS u
  · have Q1 := h1 t
    unfold isS at t
    refine ⟨fun z => ?_, fun z => ?_, fun z => ?_, fun z => ?_, fun z => ?_, fun z => ?_, fun z => ?_, fun z => ?_, fun z => ?_, fun z => ?_, fun z => ?_, fun z => ?_, fun z => ?_, fun z => ?_, fun z => ?_, fun z => ?_, fun z => ?_, fun z => ?_, fun z => ?_, fun z => ?_, fun z => ?_, fun z => ?_, fun z => ?_, fun z => ?_⟩
    all_goals first | exact Q1 | (exfalso; omega)
  · have Q0 := h0 t
    unfold isS at t
    refine ⟨fun z => ?_, fun z => ?_, fun z => ?_, fun z => ?_, fun z => ?_, fun z => ?_, fun z => ?_, fun z => ?_, fun z => ?_, fun z => ?_, fun z => ?_, fun z => ?_, fun z => ?_, fun z => ?_, fun z => ?_, fun z => ?_, fun z => ?_, fun z => ?_, fun z => ?_, fun z => ?_, fun z => ?_, fun z => ?_, fun z => ?_, fun z => ?_⟩
    all_goals first | exact Q0 | (exfalso; omega)
theorem st0_uF {tk : TT} {k i : Nat} {x : Nat × Nat × Nat × Nat} (h : i ≤ k) : st0 (enT (uF tk k x)) i = st0 (enT tk) i := by
  cases i with
  | zero => rfl
  | succ i =>
    show enT (uF tk k x) i = enT tk i
    unfold enT
    rw [uF_n (by omega)]
theorem TS_up {U : Nat → Nat} {n k m : Nat} {tk : TT} {x : Nat × Nat × Nat × Nat} (h : TS U n k tk) (hm : k ≤ m) : TS U n k (uF tk m x) := by
  intro i hi
  rw [st0_uF (by omega), uF_n (by omega)]
  exact h i hi
theorem TS_push {U : Nat → Nat} {n k w v a e : Nat} {tk : TT} (h : TS U n k tk) (ht : TK U n (st0 (enT tk) k) w v a e) (hw : 2 ≤ w) : TS U n (k + 1) (uF tk k (w, v, a, e)) := by
  intro i hi
  by_cases z : i = k
  · subst z
    rw [st0_uF (Nat.le_refl _), uF_s]
    exact ⟨ht, hw⟩
  · exact TS_up h (Nat.le_refl _) i (by omega)
def CTk (σ : HS) (tk : TT) (j : Nat) : Prop := σ.1 78 0 j = nI (tk j).1 ∧ σ.1 79 0 j = nI (tk j).2.1 ∧ σ.1 80 0 j = nI (tk j).2.2.1
/-- the tokens of a text: k of them, and behind them the end or a place without one -/
def TSK (U : Nat → Nat) (n k : Nat) (tk : TT) : Prop := TS U n k tk ∧ TK U n (st0 (enT tk) k) (tk k).1 (tk k).2.1 (tk k).2.2.1 (tk k).2.2.2 ∧ (tk k).1 ≤ 1 ∧ k ≤ 1000
def SC (σ : HS) (k : Nat) (tk : TT) : Prop := ∃ z, k < z ∧ z ≤ 1002 ∧ σ.1 8 0 3 = nI z ∧ ∀ j, j ≤ k → CTk σ tk j
theorem scan_loop (d n : Nat) (U : Nat → Nat) (σ0 : HS) (Q : Option AV → HS → Prop) (hd : 8 ≤ d) (hx0 : TX σ0 n U) (h : ∀ σ2 k tk, TSK U n k tk → SC σ2 k tk → FrT σ0 σ2 → Q none σ2) :
    ∀ f p s k tk σ, p + f = n → s ≤ p → k ≤ p → TS U n k tk → CT σ k tk → st0 (enT tk) k ≤ p → (∀ j, st0 (enT tk) k ≤ j → j < p → isB (U j)) → FrT σ0 σ → atX8_scan_10 d Q σ (nI n) (nI p) (nI s) := by
  intro f
  induction f using Nat.strongRecOn with
  | ind f ih =>
  intro p s k tk σ hp hs hk hT hc hst hbl hf
  have hx := hf.tx hx0
  obtain ⟨hn, hB, hU⟩ := id hx
  by_cases ep : p = n
  · have fin : MT (d - 1) mX8_add [vR 8 0, vI 0, vI 0, vI (nI n)] σ (fun r σ_6 => r = none ∧ Q none σ_6) := by
      refine add_ok (d - 1) k 0 0 n n tk σ _ (by omega) (by omega) (by omega) hc (fun σ2 c2 f2 => ⟨rfl, h σ2 k (uF tk k (0, 0, n, n)) ⟨TS_up hT (Nat.le_refl _), ?_, ?_, by omega⟩ ⟨k + 1, by omega, by omega, c2.1, fun j hj => c2.2 j (by omega)⟩ (hf.tr f2)⟩)
      · rw [st0_uF (Nat.le_refl _), uF_s]
        exact ⟨by show st0 (enT tk) k ≤ n; omega, fun j h1 h2 => hbl j h1 (by have h3 : j < n := h2; omega), Or.inl ⟨rfl, rfl⟩⟩
      · rw [uF_s]
        exact Nat.zero_le _
    subst ep
    exact wX8_scan_10 d Q σ _ _ _ (by omega) ⟨fun _ => fin, fun _ => ⟨fun _ => fin, fun z => absurd (nI_le (Nat.le_refl _) (by omega)) z⟩⟩
  have hpn : p < n := by omega
  have hb := hB p hpn
  have go : ∀ w v e σ2, ¬ isB (U p) → TB U p w v e → 1 ≤ w → (2 ≤ w → e ≤ n) → CT σ2 (k + 1) (uF tk k (w, v, p, e)) → FrT σ σ2 → atX8_scan_10 d Q σ2 (nI n) (nI (if w = 1 then n else e)) (nI (s + 1)) := by
    intro w v e σ2 nb tb w1 en c2 f2
    have tkk : TK U n (st0 (enT tk) k) w v p e := ⟨hst, hbl, Or.inr ⟨hpn, nb, tb⟩⟩
    by_cases ew : w = 1
    · subst ew
      rw [if_pos rfl]
      have fin : MT (d - 1) mX8_add [vR 8 0, vI 0, vI 0, vI (nI n)] σ2 (fun r σ_6 => r = none ∧ Q none σ_6) := by
        refine add_ok (d - 1) (k + 1) 0 0 n n _ σ2 _ (by omega) (by omega) (by omega) c2 (fun σ3 c3 f3 => ⟨rfl, h σ3 k (uF (uF tk k (1, v, p, e)) (k + 1) (0, 0, n, n)) ⟨TS_up (TS_up hT (Nat.le_refl _)) (by omega), ?_, ?_, by omega⟩ ⟨k + 2, by omega, by omega, c3.1, fun j hj => c3.2 j (by omega)⟩ ((hf.tr f2).tr f3)⟩)
        · rw [st0_uF (by omega), st0_uF (Nat.le_refl _), uF_n (by omega), uF_s]
          exact tkk
        · rw [uF_n (by omega), uF_s]
          exact Nat.le_refl _
      exact wX8_scan_10 d Q σ2 _ _ _ (by omega) ⟨fun _ => fin, fun _ => ⟨fun _ => fin, fun z => absurd (nI_le (Nat.le_refl _) (by omega)) z⟩⟩
    · rw [if_neg ew]
      have te := TB_end tb (by omega)
      have e2 := en (by omega)
      refine ih (n - e) (by omega) e (s + 1) (k + 1) _ σ2 (by omega) (by omega) (by omega) (TS_push hT tkk (by omega)) c2 ?_ ?_ (hf.tr f2)
      · show enT _ k ≤ e
        unfold enT
        rw [uF_s]
        exact Nat.le_refl _
      · intro j h1 h2
        have h3 : enT (uF tk k (w, v, p, e)) k ≤ j := h1
        unfold enT at h3
        rw [uF_s] at h3
        exact absurd h3 (by show ¬ e ≤ j; omega)
  have blank : isB (U p) → atX8_scan_10 d Q σ (nI n) (nI (p + 1)) (nI (s + 1)) := fun yb => ih (f - 1) (by omega) (p + 1) (s + 1) k tk σ (by omega) (by omega) (by omega) hT hc (by omega) (fun j h1 h2 => by
    by_cases z : j = p
    · rw [z]; exact yb
    · exact hbl j h1 (by omega)) hf
  refine wX8_scan_10 d Q σ _ _ _ (by omega) ⟨fun z => absurd z (nI_ge (by omega) (by omega)), fun _ => ⟨fun z => absurd z (nI_ge (by omega) (by omega)), fun _ => ⟨vp_in_nI (by omega) (by omega), ?_⟩⟩⟩
  rintro _ rfl
  rw [nI_clamp (by omega), hb.isL, hb.isD]
  refine ⟨fun nl => ⟨fun nd => ?_, fun yd => ?_⟩, fun yl => ?_⟩
  · refine isSign_ok (d - 1) _ (U p) σ _ hb (fun ys => ⟨_, rfl, fun z => absurd z (by decide), fun _ => ?_⟩) (fun ns => ⟨_, rfl, fun _ => ?_, fun z => absurd rfl z⟩)
    · have hs2 := ys
      unfold isS at hs2
      rw [hb.val (by omega)]
      refine add_ok (d - 1) k (U p) 0 p (p + 1) tk σ _ (by omega) (by omega) (by omega) hc (fun σ2 c2 f2 => ⟨rfl, ?_⟩)
      rintro _ rfl _ rfl
      rw [nI_1, nI_1]
      have := go (U p) 0 (p + 1) σ2 (by unfold isB; omega) (Or.inl ⟨ys, rfl, rfl, rfl⟩) (by omega) (fun _ => by omega) c2 f2
      rwa [if_neg (by omega)] at this
    · have q32 : σ.1 58 0 p = 32 ↔ U p = 32 := hb.eqI (c := 32) (by omega)
      have q10 : σ.1 58 0 p = 10 ↔ U p = 10 := hb.eqI (c := 10) (by omega)
      rw [q32, q10]
      refine ⟨fun z => ?_, fun z => ⟨fun y => ?_, fun y => ?_⟩⟩
      · rintro _ rfl _ rfl
        rw [nI_1, nI_1]
        exact blank (Or.inl z)
      · refine add_ok (d - 1) k 1 0 p (p + 1) tk σ _ (by omega) (by omega) (by omega) hc (fun σ2 c2 f2 => ⟨rfl, ?_⟩)
        rintro _ rfl
        rw [nI_1]
        have := go 1 0 (p + 1) σ2 (by unfold isB; omega) (Or.inr (Or.inr (Or.inr (Or.inr (Or.inr (Or.inr ⟨ns, nd, nl, rfl⟩)))))) (by omega) (by omega) c2 f2
        rwa [if_pos rfl] at this
      · rintro _ rfl _ rfl
        rw [nI_1, nI_1]
        exact blank (Or.inr y)
  · refine addNum_ok (d - 1) σ n p k U tk _ (by omega) hx hpn yd (by omega) hc (fun w v e σ2 tb w1 en c2 f2 => ⟨_, rfl, ?_⟩)
    rintro _ rfl
    rw [nI_1]
    exact go w v e σ2 (by unfold isD at yd; unfold isB; omega) tb w1 en c2 f2
  · refine addName_ok (d - 1) σ n p k U tk _ (by omega) hx hpn yl (by omega) hc (fun w v e σ2 tb w1 en c2 f2 => ⟨_, rfl, ?_⟩)
    rintro _ rfl
    rw [nI_1]
    exact go w v e σ2 (by unfold isL at yl; unfold isB; omega) tb w1 en c2 f2
theorem scan_ok (d n : Nat) (U : Nat → Nat) (σ : HS) (Q : Option AV → HS → Prop) (hd : 8 ≤ d) (hx : TX σ n U) (h : ∀ σ2 k tk, TSK U n k tk → SC σ2 k tk → FrT σ σ2 → Q none σ2) : MT d mX8_scan [vR 8 0, vR 58 0, vI (nI n)] σ Q := by
  have f0 : FrT σ (up σ 8 0 3 0) := ⟨rfl, fun k a _ _ _ => up_ne a⟩
  refine wX8_scan d _ σ Q ?_
  rintro _ rfl
  exact scan_loop d n U _ Q hd (f0.tx hx) (fun σ2 k tk a b c => h σ2 k tk a b (f0.tr c)) n 0 0 0 (fun _ => (0, 0, 0, 0)) _ (by omega) (by omega) (by omega) (fun i hi => absurd hi (Nat.not_lt_zero i)) ⟨up_same, fun j hj => absurd hj (Nat.not_lt_zero j)⟩ (Nat.le_refl _) (fun j _ hj => absurd hj (Nat.not_lt_zero j)) FrT.rf
