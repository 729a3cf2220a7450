/-! a condition's value -/
def oldN (f : Nat → Nat) : Nat → Nat
  | 0 => 0
  | m + 1 => if f m = 0 then oldN f m else f m
theorem oldN_z {f : Nat → Nat} : ∀ {m : Nat}, (∀ a, a < m → f a = 0) → oldN f m = 0
  | 0, _ => rfl
  | m + 1, h => by
    unfold oldN
    rw [if_pos (h m (by omega))]
    exact oldN_z (fun a ha => h a (by omega))
theorem cold_ok (d t k : Nat) (f : Nat → Nat) (σ : HS) (Q : Option AV → HS → Prop) (ht : t < 8) (hk : k < 3) (hf : ∀ a, a < 61 → σ.1 65 (3 * t + k) a = nI (f a)) (hf2 : ∀ a, a < 61 → f a ≤ 100000) (hH : σ.1 63 t k = nI (sm f 61)) (hS : sm f 61 ≤ 100000) (h : Q (some (vI (nI (oldN f 61)))) σ) : MT d mX9_measuresOfTheOldest [vR 3 t, vI (nI k)] σ Q := by
  have vk : vp_in (nI k) 3 := vp_in_nI hk (by omega)
  have key : ∀ m, m ≤ 61 → oldN f m = oldN f 61 → atX9_measuresOfTheOldest_3 d Q σ t (nI k) (nI m - 1) := by
    intro m
    induction m with
    | zero =>
      intro _ e
      refine wX9_measuresOfTheOldest_3 d Q σ t _ _ ht ⟨fun _ => ?_, fun q => absurd (by decide) q⟩
      rw [← e] at h
      exact h
    | succ m ih =>
      intro hm e
      have vm : vp_in (nI m) 61 := vp_in_nI (by omega) (by omega)
      rw [nI_pred]
      refine wX9_measuresOfTheOldest_3 d Q σ t _ _ ht ⟨fun q => absurd q (nI_pos (by omega)), fun _ => ⟨vk, fun q => ?_, fun _ => ⟨vk, vm, fun q => ?_, fun q => ⟨vk, vm, ?_⟩⟩⟩⟩
      · rw [nI_clamp (by omega), hH, ← nI_0] at q
        have := (nI_leI (by omega) (by omega)).mp q
        rw [oldN_z (fun a ha => by have := sm_part f ha; omega)] at h
        exact h
      · rw [nI_clamp (by omega), nI_clamp (by omega), hf m (by omega), ← nI_0] at q
        have := (nI_leI (by have := hf2 m (by omega); omega) (by omega)).mp q
        rintro _ rfl
        have e3 : nI m + (-1) = nI m - 1 := by rw [Int32.sub_eq_add_neg]
        rw [e3]
        refine ih (by omega) ?_
        rw [← e]
        exact (if_pos (show f m = 0 by omega)).symm
      · rw [nI_clamp (by omega), nI_clamp (by omega), hf m (by omega)] at q ⊢
        have e2 : oldN f (m + 1) = f m := if_neg (fun z => q (by rw [z]; decide))
        rw [← e, e2] at h
        exact h
  exact wX9_measuresOfTheOldest d t _ σ Q ht (key 61 (by omega) rfl)
theorem mold_ok (d t k : Nat) (f : Nat → Nat) (σ : HS) (Q : Option AV → HS → Prop) (hd : 1 ≤ d) (ht : t < 8) (hk : k < 3) (hf : ∀ a, a < 61 → σ.1 17 0 (61 * (3 * t + k) + a) = nI (f a)) (hf2 : ∀ a, a < 61 → f a ≤ 100000) (h : Q (some (vI (nI (oldN f 61)))) σ) : MT d mX11_oldOf [vR 0 0, vI (nI t), vI (nI k)] σ Q := by
  have key : ∀ a, a < 61 → oldN f (a + 1) = oldN f 61 → atX11_oldOf_3 d Q σ (nI t) (nI k) (nI a) := by
    intro a
    induction a with
    | zero =>
      intro ha e
      have hv : vp_in (nI (61 * (3 * t + k) + 0)) 1464 := vp_in_nI (by omega) (by omega)
      refine wX11_oldOf_3 d Q σ _ _ _ hd ⟨fun _ => ?_, fun q => absurd (by decide) q⟩
      rw [lot_nI, nI_clamp (by omega), hf 0 (by omega)]
      refine ⟨hv, ?_⟩
      have e2 : oldN f 1 = f 0 := by
        show (if f 0 = 0 then 0 else f 0) = f 0
        by_cases z : f 0 = 0
        · rw [if_pos z, z]
        · rw [if_neg z]
      rw [← e, e2] at h
      exact h
    | succ a ih =>
      intro ha e
      have hv : vp_in (nI (61 * (3 * t + k) + (a + 1))) 1464 := vp_in_nI (by omega) (by omega)
      refine wX11_oldOf_3 d Q σ _ _ _ hd ⟨fun q => absurd q (nI_nle (by omega) (by omega)), fun _ => ?_⟩
      rw [lot_nI, nI_clamp (by omega), hf (a + 1) ha]
      refine ⟨hv, fun q => ⟨hv, ?_⟩, fun q => ?_⟩
      · have e2 : oldN f (a + 1 + 1) = f (a + 1) := if_neg (fun z => q (by rw [z]; decide))
        rw [← e, e2] at h
        exact h
      · rintro _ rfl
        rw [pk_m1]
        refine ih (by omega) ?_
        rw [← e]
        refine (if_pos ?_).symm
        rw [← nI_0] at q
        exact (nI_eq (by have := hf2 (a + 1) ha; omega) (by omega)).mp q
  exact wX11_oldOf d _ _ σ Q (key 60 (by omega) rfl)
def lfP (G : HS) (S : MS) (c v k : Int32) : Int32 :=
  if c = 110 then v else if c = 109 then nI S.2.2.2 else if vN v < gN G then (if c = 112 then nI (gP G (vN v)) else if c = 115 then nI (sm (row S.1 (3 * vN v + vN k)) 61) else if c = 111 then nI (oldN (row S.1 (3 * vN v + vN k)) 61) else nI (gR G (vN v) - tot S.1 (vN v))) else 0
def twP (c a b : Int32) : Int32 :=
  if c = 43 then a + b else if c = 45 then a - b else if c = 60 then (if a < b then 1 else 0) else if c = 62 then (if b < a then 1 else 0) else if c = 61 then (if a = b then 1 else 0) else if c = 38 then a &&& b else a ||| b
theorem dec_s {n w : Nat} (hw : w < 64) (hn : 64 * n + w < 2 ^ 31) : nI (64 * n + w) &&& 63 = nI w ∧ nI (64 * n + w) >>> (6 &&& 31) = nI n := by
  constructor
  · rw [pk_andN (by omega) 6 (by decide)]
    congr 1
    omega
  · rw [pk_shrN hn (6 &&& 31) 6 (by decide)]
    congr 1
    omega
def isT (x : Int32) : Prop := x = 2 ∨ (13 ≤ x ∧ x ≤ 17)
theorem hasT_iff {G σ : HS} (hI : Inv G) (hA : FrA G σ) {t : Nat} (ht : t < 8) : (0 ≤ nI t ∧ nI t ≤ σ.1 2 0 3 - 1) ↔ t < gN G := by
  obtain ⟨n8, n1, n2⟩ := hI.nle
  have eN : σ.1 2 0 3 = nI (gN G) := (hA.2.2.1 0 _ (by decide)).trans n2
  rw [eN, tw_iff n8]
  constructor
  · rintro ⟨t2, h1, h2⟩
    have := (nI_eq (by omega) (by omega)).mp h2
    omega
  · intro h
    exact ⟨t, h, rfl⟩
theorem hasT_iff2 {G σ : HS} (hI : Inv G) (hA : FrA G σ) {t : Nat} (ht : t < 8) : (0 ≤ nI t ∧ nI t < σ.1 0 0 7) ↔ t < gN G := by
  obtain ⟨n8, n1, n2⟩ := hI.nle
  have eN : σ.1 0 0 7 = nI (gN G) := (hA.2.2.2 0 _ (by decide) (by decide)).trans n1
  rw [eN, tw_iff2 (by omega)]
  constructor
  · rintro ⟨t2, h1, h2⟩
    have := (nI_eq (by omega) (by omega)).mp h2
    omega
  · intro h
    exact ⟨t, h, rfl⟩
/-- a term in a town's words, class -/
theorem cterm_ok (d : Nat) (G : HS) (S : MS) (t q w : Nat) (σ : HS) (Q : Option AV → HS → Prop) (hd : 2 ≤ d) (hI : Inv G) (hA : FrA G σ) (hc : CC σ S) (hT : WT G S.1) (ht : t < 8) (hq : q < 3) (hw : 14 ≤ w ∧ w ≤ 17)
    (h0 : ¬ t < gN G → Q (some (vI 0)) σ) (h14 : t < gN G → w = 14 → Q (some (vI (nI (gP G t)))) σ) (h15 : t < gN G → w = 15 → Q (some (vI (nI (sm (row S.1 (3 * t + q)) 61)))) σ) (h16 : t < gN G → w = 16 → Q (some (vI (nI (oldN (row S.1 (3 * t + q)) 61)))) σ) (h17 : t < gN G → w = 17 → Q (some (vI (nI (gR G t - tot S.1 t)))) σ) : MT d mX5_termValue [vI (nI w), vI (nI (3 * t + q)), vR 2 0] σ Q := by
  have e1 : nI (3 * t + q) / 3 = nI t := by
    rw [show (3 : Int32) = nI 3 from rfl, pk_div (by omega) (by omega) (by omega)]
    congr 1
    omega
  have e2 : nI (3 * t + q) - nI (3 * t + q) / 3 * 3 = nI q := by
    rw [show (3 : Int32) = nI 3 from rfl, pk_rem (by omega) (by omega) (by omega)]
    congr 1
    omega
  have ne : ∀ a b : Nat, a < 100 → b < 100 → a ≠ b → ¬ nI a = nI b := fun a b ha hb hab z => hab ((nI_eq (by omega) (by omega)).mp z)
  have vt : vp_in (nI t) 8 := vp_in_nI ht (by omega)
  have vq : vp_in (nI q) 3 := vp_in_nI hq (by omega)
  have eT : σ.1 3 = G.1 3 := hA.k (by decide) (by decide)
  refine wX5_termValue d _ _ σ Q (by omega) ⟨fun _ => ⟨fun _ => ?_, fun z => absurd z (ne w 13 (by omega) (by omega) (by omega))⟩, fun z => absurd z (ne w 2 (by omega) (by omega) (by omega))⟩
  rintro _ rfl _ rfl
  rw [e2, e1]
  refine ⟨fun z => h0 (fun y => z ((hasT_iff hI hA ht).mpr y)), fun z => ?_⟩
  have htn := (hasT_iff hI hA ht).mp z
  refine ⟨fun _ => ⟨vt, fun e => ?_, fun e => ⟨vq, ?_⟩, fun e => ?_, fun e => ?_⟩, fun y => absurd (kd_iff.mpr ⟨q, hq, rfl⟩) y⟩
  · rw [nI_clamp (by omega), eT, (hI.ple t ht).2.2]
    exact h14 htn ((nI_eq (a := w) (b := 14) (by omega) (by omega)).mp e)
  · rw [nI_clamp (by omega), nI_clamp (by omega), hc.1.2 t q ht hq]
    exact h15 htn ((nI_eq (a := w) (b := 15) (by omega) (by omega)).mp e)
  · rw [nI_clamp (by omega)]
    exact cold_ok (d - 1) t q (row S.1 (3 * t + q)) σ _ ht hq (fun a ha => hc.1.1 _ _ (by omega) ha) (fun a ha => row_le hI hT (by omega) ha) (hc.1.2 t q ht hq) (sm_row_le hI hT ht hq) ⟨_, rfl, h16 htn ((nI_eq (a := w) (b := 16) (by omega) (by omega)).mp e)⟩
  · have e17 : w = 17 := by
      obtain ⟨a1, a2, a3⟩ := e
      have : w ≠ 14 := fun z => a1 (by rw [z]; rfl)
      have : w ≠ 15 := fun z => a2 (by rw [z]; rfl)
      have : w ≠ 16 := fun z => a3 (by rw [z]; rfl)
      omega
    have h1 := hT t ht
    have h2 := tot_row S.1 t
    rw [nI_clamp (by omega), eT, (hI.rle t ht).2.2, hc.1.2 t 0 ht (by omega), hc.1.2 t 1 ht (by omega), hc.1.2 t 2 ht (by omega), pk_sub (by simp only [Nat.add_zero]; omega), pk_sub (by simp only [Nat.add_zero]; omega), pk_sub (by simp only [Nat.add_zero]; omega)]
    have e3 : gR G t - sm (row S.1 (3 * t + 0)) 61 - sm (row S.1 (3 * t + 1)) 61 - sm (row S.1 (3 * t + 2)) 61 = gR G t - tot S.1 t := by simp only [Nat.add_zero]; omega
    rw [e3]
    exact h17 htn e17
theorem cleaf_ok (d : Nat) (G : HS) (S : MS) (c v k s : Int32) (σ : HS) (Q : Option AV → HS → Prop) (hd : 2 ≤ d) (hI : Inv G) (hA : FrA G σ) (hc : CC σ S) (hT : WT G S.1) (he : encR c v k s) (hl : 97 ≤ c ∧ c ≤ 122) (h : Q (some (vI (lfP G S c v k))) σ) : isT (s &&& 63) ∧ MT d mX5_termValue [vI (s &&& 63), vI (s >>> (6 &&& 31)), vR 2 0] σ Q := by
  have ne : ∀ a b : Nat, a < 100 → b < 100 → a ≠ b → ¬ nI a = nI b := fun a b ha hb hab z => hab ((nI_eq (by omega) (by omega)).mp z)
  unfold lfP at h
  rcases he with ⟨rfl, n, hn, rfl, rfl⟩ | ⟨rfl, rfl⟩ | ⟨rfl, t, ht, rfl, rfl⟩ | ⟨rfl, t, q, ht, hq, rfl, rfl, rfl⟩ | ⟨rfl, t, q, ht, hq, rfl, rfl, rfl⟩ | ⟨rfl, t, ht, rfl, rfl⟩ | ⟨rfl, _⟩ | ⟨rfl, _⟩ | ⟨rfl, _⟩ | ⟨rfl, _⟩ | ⟨rfl, _⟩ | ⟨rfl, _⟩ | ⟨rfl, _⟩ | ⟨rfl, _⟩
  · obtain ⟨e1, e2⟩ := dec_s (n := n) (w := 2) (by omega) (by omega)
    rw [e1, e2]
    rw [if_pos rfl] at h
    exact ⟨Or.inl rfl, wX5_termValue d _ _ σ Q hd ⟨fun z => absurd rfl z, fun _ => h⟩⟩
  · rw [if_neg (by decide), if_pos rfl] at h
    refine ⟨Or.inr ⟨by decide, by decide⟩, wX5_termValue d _ _ σ Q hd ⟨fun _ => ⟨fun z => absurd (by decide) z, fun _ => ?_⟩, fun z => absurd z (by decide)⟩⟩
    rw [hc.2.2.2]
    exact h
  · obtain ⟨e1, e2⟩ := dec_s (n := 3 * t) (w := 14) (by omega) (by omega)
    rw [e1, e2]
    rw [if_neg (by decide), if_neg (by decide), vN_nI (by omega)] at h
    refine ⟨Or.inr ⟨by decide, by decide⟩, cterm_ok d G S t 0 14 σ Q hd hI hA hc hT ht (by omega) (by omega) (fun z => ?_) (fun z _ => ?_) (fun _ z => absurd z (by omega)) (fun _ z => absurd z (by omega)) (fun _ z => absurd z (by omega))⟩
    · rwa [if_neg z] at h
    · rwa [if_pos z, if_pos rfl] at h
  · obtain ⟨e1, e2⟩ := dec_s (n := 3 * t + q) (w := 15) (by omega) (by omega)
    rw [e1, e2]
    rw [if_neg (by decide), if_neg (by decide), vN_nI (by omega), vN_nI (by omega)] at h
    refine ⟨Or.inr ⟨by decide, by decide⟩, cterm_ok d G S t q 15 σ Q hd hI hA hc hT ht hq (by omega) (fun z => ?_) (fun _ z => absurd z (by omega)) (fun z _ => ?_) (fun _ z => absurd z (by omega)) (fun _ z => absurd z (by omega))⟩
    · rwa [if_neg z] at h
    · rwa [if_pos z, if_neg (by decide), if_pos rfl] at h
  · obtain ⟨e1, e2⟩ := dec_s (n := 3 * t + q) (w := 16) (by omega) (by omega)
    rw [e1, e2]
    rw [if_neg (by decide), if_neg (by decide), vN_nI (by omega), vN_nI (by omega)] at h
    refine ⟨Or.inr ⟨by decide, by decide⟩, cterm_ok d G S t q 16 σ Q hd hI hA hc hT ht hq (by omega) (fun z => ?_) (fun _ z => absurd z (by omega)) (fun _ z => absurd z (by omega)) (fun z _ => ?_) (fun _ z => absurd z (by omega))⟩
    · rwa [if_neg z] at h
    · rwa [if_pos z, if_neg (by decide), if_neg (by decide), if_pos rfl] at h
  · obtain ⟨e1, e2⟩ := dec_s (n := 3 * t) (w := 17) (by omega) (by omega)
    rw [e1, e2]
    rw [if_neg (by decide), if_neg (by decide), vN_nI (by omega)] at h
    refine ⟨Or.inr ⟨by decide, by decide⟩, cterm_ok d G S t 0 17 σ Q hd hI hA hc hT ht (by omega) (by omega) (fun z => ?_) (fun _ z => absurd z (by omega)) (fun _ z => absurd z (by omega)) (fun _ z => absurd z (by omega)) (fun z _ => ?_)⟩
    · rwa [if_neg z] at h
    · rwa [if_pos z, if_neg (by decide), if_neg (by decide), if_neg (by decide)] at h
  all_goals exact absurd hl (by decide)
theorem mleaf_ok (d : Nat) (G : HS) (S : MS) (c v k s : Int32) (σ : HS) (Q : Option AV → HS → Prop) (hd : 3 ≤ d) (hI : Inv G) (hA : FrA G σ) (hc : CM σ S) (hT : WT G S.1) (he : encR c v k s) (hl : 97 ≤ c ∧ c ≤ 122) (h : Q (some (vI (lfP G S c v k))) σ) : MT d mX11_leaf [vR 0 0, vI c, vI v, vI k] σ Q := by
  have hL : ∀ j, j < 1464 → S.1 j ≤ 100000 := fun j hj => hT.le (fun t ht => (hI.rle t ht).1) hj
  have eP : σ.1 13 = G.1 13 := hA.k (by decide) (by decide)
  have eR : σ.1 12 = G.1 12 := hA.k (by decide) (by decide)
  unfold lfP at h
  rcases he with ⟨rfl, n, hn, rfl, rfl⟩ | ⟨rfl, rfl⟩ | ⟨rfl, t, ht, rfl, rfl⟩ | ⟨rfl, t, q, ht, hq, rfl, rfl, rfl⟩ | ⟨rfl, t, q, ht, hq, rfl, rfl, rfl⟩ | ⟨rfl, t, ht, rfl, rfl⟩ | ⟨rfl, _⟩ | ⟨rfl, _⟩ | ⟨rfl, _⟩ | ⟨rfl, _⟩ | ⟨rfl, _⟩ | ⟨rfl, _⟩ | ⟨rfl, _⟩ | ⟨rfl, _⟩
  · rw [if_pos rfl] at h
    exact wX11_leaf d _ _ _ σ Q (by omega) ⟨fun z => absurd rfl z, fun _ => h⟩
  · rw [if_neg (by decide), if_pos rfl] at h
    refine wX11_leaf d _ _ _ σ Q (by omega) ⟨fun _ => ⟨fun z => absurd rfl z, fun _ => ?_⟩, fun z => absurd z (by decide)⟩
    rw [hc.2.2.2]
    exact h
  · rw [if_neg (by decide), if_neg (by decide), vN_nI (by omega)] at h
    refine wX11_leaf d _ _ _ σ Q (by omega) ⟨fun _ => ⟨fun _ => ⟨fun z => ⟨fun y => absurd rfl y, fun _ => ⟨vp_in_nI ht (by omega), ?_⟩⟩, fun z => ?_⟩, fun z => absurd z (by decide)⟩, fun z => absurd z (by decide)⟩
    · rw [if_pos ((hasT_iff2 hI hA ht).mp z), if_pos rfl] at h
      rw [nI_clamp (by omega), eP, (hI.ple t ht).2.1]
      exact h
    · rwa [if_neg (fun y => z ((hasT_iff2 hI hA ht).mpr y))] at h
  · rw [if_neg (by decide), if_neg (by decide), vN_nI (by omega), vN_nI (by omega)] at h
    refine wX11_leaf d _ _ _ σ Q (by omega) ⟨fun _ => ⟨fun _ => ⟨fun z => ⟨fun _ => ⟨fun y => absurd rfl y, fun _ => ?_⟩, fun y => absurd y (by decide)⟩, fun z => ?_⟩, fun z => absurd z (by decide)⟩, fun z => absurd z (by decide)⟩
    · rw [if_pos ((hasT_iff2 hI hA ht).mp z), if_neg (by decide), if_pos rfl] at h
      have e : sm (fun a => Lm σ (61 * (3 * t + q) + a)) 61 = sm (row S.1 (3 * t + q)) 61 := sm_cong (fun a ha => (hc.1.row hL (r := 3 * t + q) (by omega) a ha).symm)
      exact stockOf_ok (d - 1) t q σ _ (by omega) ht hq (hc.1.lok hL) ⟨_, rfl, by rw [e]; exact h⟩
    · rwa [if_neg (fun y => z ((hasT_iff2 hI hA ht).mpr y))] at h
  · rw [if_neg (by decide), if_neg (by decide), vN_nI (by omega), vN_nI (by omega)] at h
    refine wX11_leaf d _ _ _ σ Q (by omega) ⟨fun _ => ⟨fun _ => ⟨fun z => ⟨fun _ => ⟨fun _ => ⟨fun y => absurd rfl y, fun _ => ?_⟩, fun y => absurd y (by decide)⟩, fun y => absurd y (by decide)⟩, fun z => ?_⟩, fun z => absurd z (by decide)⟩, fun z => absurd z (by decide)⟩
    · rw [if_pos ((hasT_iff2 hI hA ht).mp z), if_neg (by decide), if_neg (by decide), if_pos rfl] at h
      exact mold_ok (d - 1) t q (row S.1 (3 * t + q)) σ _ (by omega) ht hq (fun a ha => hc.1 _ (by omega)) (fun a ha => row_le hI hT (by omega) ha) ⟨_, rfl, h⟩
    · rwa [if_neg (fun y => z ((hasT_iff2 hI hA ht).mpr y))] at h
  · rw [if_neg (by decide), if_neg (by decide), vN_nI (by omega)] at h
    refine wX11_leaf d _ _ _ σ Q (by omega) ⟨fun _ => ⟨fun _ => ⟨fun z => ⟨fun _ => ⟨fun _ => ⟨fun _ => ?_, fun y => absurd y (by decide)⟩, fun y => absurd y (by decide)⟩, fun y => absurd y (by decide)⟩, fun z => ?_⟩, fun z => absurd z (by decide)⟩, fun z => absurd z (by decide)⟩
    · rw [if_pos ((hasT_iff2 hI hA ht).mp z), if_neg (by decide), if_neg (by decide), if_neg (by decide)] at h
      have e := hc.1.tot hL (t := t) ht
      exact space_ok (d - 1) t (gR G t) σ _ (by omega) ht (hc.1.lok hL) (by rw [eR]; exact (hI.rle t ht).2.1) (by rw [e]; exact hT t ht) ⟨_, rfl, by rw [e]; exact h⟩
    · rwa [if_neg (fun y => z ((hasT_iff2 hI hA ht).mpr y))] at h
  all_goals exact absurd hl (by decide)
/-- two values joined -/
theorem cjoin_ok (d : Nat) (c v k s a b : Int32) (σ : HS) (Q : Option AV → HS → Prop) (he : encR c v k s) (hl : ¬ (97 ≤ c ∧ c ≤ 122)) (hn : c ≠ 126) (h : Q (some (vI (twP c a b))) σ) : ¬ isT (s &&& 63) ∧ ¬ s &&& 63 = 12 ∧ MT d mX5_join [vI (s &&& 63), vI a, vI b] σ Q := by
  unfold twP at h
  rcases he with ⟨rfl, _⟩ | ⟨rfl, _⟩ | ⟨rfl, _⟩ | ⟨rfl, _⟩ | ⟨rfl, _⟩ | ⟨rfl, _⟩ | ⟨rfl, rfl⟩ | ⟨rfl, rfl⟩ | ⟨rfl, rfl⟩ | ⟨rfl, rfl⟩ | ⟨rfl, rfl⟩ | ⟨rfl, rfl⟩ | ⟨rfl, rfl⟩ | ⟨rfl, rfl⟩
  iterate 6 exact absurd (by decide) hl
  · exact ⟨by unfold isT; decide, by decide, wX5_join d _ _ _ σ Q ⟨fun z => absurd z (by decide), fun _ => h, fun z => absurd z (by decide), fun z => absurd z (by decide), fun z => absurd z (by decide), fun z => absurd z (by decide), fun z => absurd (by decide) z.2.1⟩⟩
  · exact ⟨by unfold isT; decide, by decide, wX5_join d _ _ _ σ Q ⟨fun z => absurd z (by decide), fun z => absurd z (by decide), fun _ => h, fun z => absurd z (by decide), fun z => absurd z (by decide), fun z => absurd z (by decide), fun z => absurd (by decide) z.2.2.1⟩⟩
  · refine ⟨by unfold isT; decide, by decide, wX5_join d _ _ _ σ Q ⟨fun z => absurd z (by decide), fun z => absurd z (by decide), fun z => absurd z (by decide), fun _ => ⟨fun z => ?_, fun z => ?_⟩, fun z => absurd z (by decide), fun z => absurd z (by decide), fun z => absurd (by decide) z.2.2.2.1⟩⟩
    · rwa [if_neg (by decide), if_neg (by decide), if_pos rfl, if_neg (Int32.not_lt.mpr z)] at h
    · rwa [if_neg (by decide), if_neg (by decide), if_pos rfl, if_pos (Int32.not_le.mp z)] at h
  · refine ⟨by unfold isT; decide, by decide, wX5_join d _ _ _ σ Q ⟨fun z => absurd z (by decide), fun z => absurd z (by decide), fun z => absurd z (by decide), fun z => absurd z (by decide), fun _ => ⟨fun z => ?_, fun z => ?_⟩, fun z => absurd z (by decide), fun z => absurd (by decide) z.2.2.2.2.1⟩⟩
    · rwa [if_neg (by decide), if_neg (by decide), if_neg (by decide), if_neg (by decide), if_pos rfl, if_neg z] at h
    · rwa [if_neg (by decide), if_neg (by decide), if_neg (by decide), if_neg (by decide), if_pos rfl, if_pos z] at h
  · refine ⟨by unfold isT; decide, by decide, wX5_join d _ _ _ σ Q ⟨fun z => absurd z (by decide), fun z => absurd z (by decide), fun z => absurd z (by decide), fun z => absurd z (by decide), fun z => absurd z (by decide), fun _ => ⟨fun z => ?_, fun z => ?_⟩, fun z => absurd (by decide) z.2.2.2.2.2⟩⟩
    · rwa [if_neg (by decide), if_neg (by decide), if_neg (by decide), if_pos rfl, if_neg (Int32.not_lt.mpr z)] at h
    · rwa [if_neg (by decide), if_neg (by decide), if_neg (by decide), if_pos rfl, if_pos (Int32.not_le.mp z)] at h
  · exact ⟨by unfold isT; decide, by decide, wX5_join d _ _ _ σ Q ⟨fun _ => h, fun z => absurd z (by decide), fun z => absurd z (by decide), fun z => absurd z (by decide), fun z => absurd z (by decide), fun z => absurd z (by decide), fun z => absurd (by decide) z.1⟩⟩
  · exact ⟨by unfold isT; decide, by decide, wX5_join d _ _ _ σ Q ⟨fun z => absurd z (by decide), fun z => absurd z (by decide), fun z => absurd z (by decide), fun z => absurd z (by decide), fun z => absurd z (by decide), fun z => absurd z (by decide), fun _ => h⟩⟩
  · exact absurd rfl hn
theorem mtwo_ok (d : Nat) (c v k s a b : Int32) (σ : HS) (Q : Option AV → HS → Prop) (he : encR c v k s) (hl : ¬ (97 ≤ c ∧ c ≤ 122)) (hn : c ≠ 126) (h : Q (some (vI (twP c a b))) σ) : MT d mX11_two [vI c, vI a, vI b] σ Q := by
  unfold twP at h
  rcases he with ⟨rfl, _⟩ | ⟨rfl, _⟩ | ⟨rfl, _⟩ | ⟨rfl, _⟩ | ⟨rfl, _⟩ | ⟨rfl, _⟩ | ⟨rfl, rfl⟩ | ⟨rfl, rfl⟩ | ⟨rfl, rfl⟩ | ⟨rfl, rfl⟩ | ⟨rfl, rfl⟩ | ⟨rfl, rfl⟩ | ⟨rfl, rfl⟩ | ⟨rfl, rfl⟩
  iterate 6 exact absurd (by decide) hl
  · exact wX11_two d _ _ _ σ Q ⟨fun z => absurd z (by decide), fun _ => h, fun z => absurd z (by decide), fun z => absurd z (by decide), fun z => absurd z (by decide), fun z => absurd z (by decide), fun z => absurd (by decide) z.2.1⟩
  · exact wX11_two d _ _ _ σ Q ⟨fun z => absurd z (by decide), fun z => absurd z (by decide), fun _ => h, fun z => absurd z (by decide), fun z => absurd z (by decide), fun z => absurd z (by decide), fun z => absurd (by decide) z.2.2.1⟩
  · refine wX11_two d _ _ _ σ Q ⟨fun z => absurd z (by decide), fun z => absurd z (by decide), fun z => absurd z (by decide), fun _ => ⟨fun z => ?_, fun z => ?_⟩, fun z => absurd z (by decide), fun z => absurd z (by decide), fun z => absurd (by decide) z.2.2.2.1⟩
    · rwa [if_neg (by decide), if_neg (by decide), if_pos rfl, if_neg (Int32.not_lt.mpr z)] at h
    · rwa [if_neg (by decide), if_neg (by decide), if_pos rfl, if_pos (Int32.not_le.mp z)] at h
  · refine wX11_two d _ _ _ σ Q ⟨fun z => absurd z (by decide), fun z => absurd z (by decide), fun z => absurd z (by decide), fun z => absurd z (by decide), fun _ => ⟨fun z => ?_, fun z => ?_⟩, fun z => absurd z (by decide), fun z => absurd (by decide) z.2.2.2.2.1⟩
    · rwa [if_neg (by decide), if_neg (by decide), if_neg (by decide), if_neg (by decide), if_pos rfl, if_neg z] at h
    · rwa [if_neg (by decide), if_neg (by decide), if_neg (by decide), if_neg (by decide), if_pos rfl, if_pos z] at h
  · refine wX11_two d _ _ _ σ Q ⟨fun z => absurd z (by decide), fun z => absurd z (by decide), fun z => absurd z (by decide), fun z => absurd z (by decide), fun z => absurd z (by decide), fun _ => ⟨fun z => ?_, fun z => ?_⟩, fun z => absurd (by decide) z.2.2.2.2.2⟩
    · rwa [if_neg (by decide), if_neg (by decide), if_neg (by decide), if_pos rfl, if_neg (Int32.not_lt.mpr z)] at h
    · rwa [if_neg (by decide), if_neg (by decide), if_neg (by decide), if_pos rfl, if_pos (Int32.not_le.mp z)] at h
  · exact wX11_two d _ _ _ σ Q ⟨fun _ => h, fun z => absurd z (by decide), fun z => absurd z (by decide), fun z => absurd z (by decide), fun z => absurd z (by decide), fun z => absurd z (by decide), fun z => absurd (by decide) z.1⟩
  · exact wX11_two d _ _ _ σ Q ⟨fun z => absurd z (by decide), fun z => absurd z (by decide), fun z => absurd z (by decide), fun z => absurd z (by decide), fun z => absurd z (by decide), fun z => absurd z (by decide), fun _ => h⟩
  · exact absurd rfl hn
