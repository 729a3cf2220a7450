/-! a month, as a function of numbers -/
abbrev Ld := Nat × Nat × Nat × Nat × Nat
abbrev MS := (Nat → Nat) × List Ld × (Nat → Int32) × Nat
def uF {α : Type} (f : Nat → α) (i : Nat) (x : α) : Nat → α := fun j => if j = i then x else f j
def blF (L : Nat → Nat) (r : Nat) (f : Nat → Nat) : Nat → Nat := fun j => if 61 * r ≤ j ∧ j < 61 * r + 61 then f (j - 61 * r) else L j
def row (L : Nat → Nat) (r : Nat) : Nat → Nat := fun a => L (61 * r + a)
def tot (L : Nat → Nat) (t : Nat) : Nat := sm (fun j => L (183 * t + j)) 183
def gN (G : HS) : Nat := vN (G.1 0 0 7)
def gR (G : HS) (t : Nat) : Nat := vN (G.1 12 0 t)
def gP (G : HS) (t : Nat) : Nat := vN (G.1 13 0 t)
def gK (G : HS) (k : Nat) : Nat := vN (G.1 16 0 k)
theorem uF_s {α : Type} {f : Nat → α} {i : Nat} {x : α} : uF f i x i = x := if_pos rfl
theorem uF_n {α : Type} {f : Nat → α} {i j : Nat} {x : α} (h : j ≠ i) : uF f i x j = f j := if_neg h
theorem blF_in {L : Nat → Nat} {r : Nat} {f : Nat → Nat} {a : Nat} (ha : a < 61) : blF L r f (61 * r + a) = f a := by
  unfold blF
  rw [if_pos ⟨by omega, by omega⟩, Nat.add_sub_cancel_left]
theorem blF_out {L : Nat → Nat} {r r2 : Nat} {f : Nat → Nat} {a : Nat} (ha : a < 61) (h : r2 ≠ r) : blF L r f (61 * r2 + a) = L (61 * r2 + a) := by
  unfold blF
  rw [if_neg (by omega)]
theorem blF_pt {L : Nat → Nat} {r a v : Nat} (ha : a < 61) : blF L r (uF (row L r) a v) = uF L (61 * r + a) v := by
  funext j
  unfold blF uF row
  by_cases h : 61 * r ≤ j ∧ j < 61 * r + 61
  · rw [if_pos h]
    by_cases h2 : j = 61 * r + a
    · rw [if_pos (by omega), if_pos h2]
    · rw [if_neg (by omega), if_neg h2, Nat.add_sub_cancel' h.1]
  · rw [if_neg h, if_neg (by omega)]
theorem sm_blF {L : Nat → Nat} {r r2 : Nat} {f : Nat → Nat} : sm (row (blF L r f) r2) 61 = if r2 = r then sm f 61 else sm (row L r2) 61 := by
  by_cases h : r2 = r
  · rw [if_pos h, h]
    exact sm_cong (fun a ha => blF_in ha)
  · rw [if_neg h]
    exact sm_cong (fun a ha => blF_out ha h)
theorem tot_row (L : Nat → Nat) (t : Nat) : tot L t = sm (row L (3 * t)) 61 + sm (row L (3 * t + 1)) 61 + sm (row L (3 * t + 2)) 61 := tot_split L t
def WT (G : HS) (L : Nat → Nat) : Prop := ∀ t, t < 8 → tot L t ≤ gR G t
theorem row_le_tot {L : Nat → Nat} {t k : Nat} (hk : k < 3) : sm (row L (3 * t + k)) 61 ≤ tot L t := by
  rw [tot_row]
  rcases (show k = 0 ∨ k = 1 ∨ k = 2 by omega) with rfl | rfl | rfl <;> (try rw [Nat.add_zero]) <;> omega
/-- a block changed: the total -/
theorem tot_blF {L : Nat → Nat} {t k : Nat} {f : Nat → Nat} (hk : k < 3) : tot (blF L (3 * t + k) f) t + sm (row L (3 * t + k)) 61 = tot L t + sm f 61 := by
  rw [tot_row, tot_row, sm_blF, sm_blF, sm_blF]
  rcases (show k = 0 ∨ k = 1 ∨ k = 2 by omega) with rfl | rfl | rfl
  · rw [if_pos (by omega), if_neg (by omega), if_neg (by omega)]
    simp only [Nat.add_zero]
    omega
  · rw [if_neg (by omega), if_pos (by omega), if_neg (by omega)]
    omega
  · rw [if_neg (by omega), if_neg (by omega), if_pos (by omega)]
    omega
theorem tot_blF2 {L : Nat → Nat} {t k t2 : Nat} {f : Nat → Nat} (hk : k < 3) (h : t2 ≠ t) : tot (blF L (3 * t + k) f) t2 = tot L t2 := by
  rw [tot_row, tot_row, sm_blF, sm_blF, sm_blF, if_neg (by omega), if_neg (by omega), if_neg (by omega)]
theorem WT.blk {G : HS} {L : Nat → Nat} {t k : Nat} {f : Nat → Nat} (h : WT G L) (hk : k < 3) (hf : tot L t + sm f 61 ≤ gR G t + sm (row L (3 * t + k)) 61) : WT G (blF L (3 * t + k) f) := by
  intro t2 h2
  by_cases e : t2 = t
  · subst e
    have := tot_blF (L := L) (t := t2) (f := f) hk
    omega
  · rw [tot_blF2 hk e]
    exact h t2 h2
theorem WT.le {G : HS} {L : Nat → Nat} (h : WT G L) (hR : ∀ t, t < 8 → gR G t ≤ 100000) {j : Nat} (hj : j < 1464) : L j ≤ 100000 := by
  have h1 := h (j / 183) (by omega)
  have h2 := hR (j / 183) (by omega)
  have h3 := sm_part (fun i => L (183 * (j / 183) + i)) (i := j % 183) (n := 183) (by omega)
  have e : 183 * (j / 183) + j % 183 = j := by omega
  simp only [e] at h3
  unfold tot at h1
  omega
/-! the loads in five rows -/
def LG (k1 k2 k3 k4 k5 : Nat) (σ : HS) : Nat → List Ld → Prop
  | _, [] => True
  | b, q :: r => (σ.1 k1 0 b = nI q.1 ∧ σ.1 k2 0 b = nI q.2.1 ∧ σ.1 k3 0 b = nI q.2.2.1 ∧ σ.1 k4 0 b = nI q.2.2.2.1 ∧ σ.1 k5 0 b = nI q.2.2.2.2) ∧ LG k1 k2 k3 k4 k5 σ (b + 1) r
theorem LG.cong {k1 k2 k3 k4 k5 : Nat} {σ σ2 : HS} : ∀ {ls : List Ld} {b : Nat}, (∀ k j, k = k1 ∨ k = k2 ∨ k = k3 ∨ k = k4 ∨ k = k5 → b ≤ j → j < b + ls.length → σ2.1 k 0 j = σ.1 k 0 j) → LG k1 k2 k3 k4 k5 σ b ls → LG k1 k2 k3 k4 k5 σ2 b ls
  | [], _, _, _ => True.intro
  | q :: r, b, hc, h => by
    obtain ⟨⟨h1, h2, h3, h4, h5⟩, h6⟩ := h
    have hl : (q :: r).length = r.length + 1 := rfl
    refine ⟨⟨?_, ?_, ?_, ?_, ?_⟩, LG.cong (fun k j hk hj1 hj2 => hc k j hk (by omega) (by omega)) h6⟩
    · rw [hc k1 b (Or.inl rfl) (by omega) (by omega), h1]
    · rw [hc k2 b (by simp) (by omega) (by omega), h2]
    · rw [hc k3 b (by simp) (by omega) (by omega), h3]
    · rw [hc k4 b (by simp) (by omega) (by omega), h4]
    · rw [hc k5 b (by simp) (by omega) (by omega), h5]
theorem LG.app {k1 k2 k3 k4 k5 : Nat} {σ : HS} : ∀ {l1 l2 : List Ld} {b : Nat}, LG k1 k2 k3 k4 k5 σ b (l1 ++ l2) ↔ LG k1 k2 k3 k4 k5 σ b l1 ∧ LG k1 k2 k3 k4 k5 σ (b + l1.length) l2
  | [], _, _ => ⟨fun h => ⟨True.intro, h⟩, fun h => h.2⟩
  | q :: r, l2, b => by
    have hl : b + (q :: r).length = b + 1 + r.length := by rw [List.length_cons]; omega
    rw [hl]
    constructor
    · intro h
      have := LG.app.mp h.2
      exact ⟨⟨h.1, this.1⟩, this.2⟩
    · intro h
      exact ⟨h.1.1, LG.app.mpr ⟨h.1.2, h.2⟩⟩
theorem LG.kinds {k1 k2 k3 k4 k5 : Nat} {σ σ2 : HS} {ls : List Ld} {b : Nat} (h : LG k1 k2 k3 k4 k5 σ b ls) (e1 : σ2.1 k1 = σ.1 k1) (e2 : σ2.1 k2 = σ.1 k2) (e3 : σ2.1 k3 = σ.1 k3) (e4 : σ2.1 k4 = σ.1 k4) (e5 : σ2.1 k5 = σ.1 k5) : LG k1 k2 k3 k4 k5 σ2 b ls :=
  LG.cong (fun k j hk _ _ => by rcases hk with rfl | rfl | rfl | rfl | rfl <;> simp only [e1, e2, e3, e4, e5]) h
/-! the class and the reference hold it -/
def CLo (σ : HS) (L : Nat → Nat) : Prop := (∀ r a, r < 24 → a < 61 → σ.1 65 r a = nI (L (61 * r + a))) ∧ ∀ t k, t < 8 → k < 3 → σ.1 63 t k = nI (sm (row L (3 * t + k)) 61)
abbrev CLG := LG 66 67 68 69 70
abbrev MLG := LG 33 34 35 36 37
def CSu (σ : HS) (s : Nat → Int32) : Prop := σ.1 4 0 0 = s 0 ∧ σ.1 4 0 1 = s 1 ∧ σ.1 4 0 2 = s 2 ∧ σ.1 4 0 3 = s 5
def MSu (σ : HS) (s : Nat → Int32) : Prop := σ.1 18 0 0 = s 0 ∧ σ.1 18 0 1 = s 1 ∧ σ.1 18 0 2 = s 2 ∧ σ.1 18 0 5 = s 5
def MLo (σ : HS) (L : Nat → Nat) : Prop := ∀ j, j < 1464 → σ.1 17 0 j = nI (L j)
def CC (σ : HS) (S : MS) : Prop := CLo σ S.1 ∧ (σ.1 5 0 5 = nI S.2.1.length ∧ CLG σ 0 S.2.1) ∧ CSu σ S.2.2.1 ∧ σ.1 2 0 4 = nI S.2.2.2
def CMx (σ : HS) (S : MS) (N : Nat) : Prop := MLo σ S.1 ∧ (σ.1 0 0 43 = nI N ∧ MLG σ 0 S.2.1) ∧ MSu σ S.2.2.1 ∧ σ.1 0 0 8 = nI S.2.2.2
def CM (σ : HS) (S : MS) : Prop := CMx σ S S.2.1.length
def WL (n A C : Nat) (ls : List Ld) : Prop := ls.length ≤ 60 ∧ ∀ q, q ∈ ls → q.1 < n ∧ q.2.1 < 3 ∧ q.2.2.1 ≤ A ∧ q.2.2.2.1 ≤ 100000 ∧ C ≤ q.2.2.2.2 ∧ q.2.2.2.2 ≤ 3000
/-! what stands still -/
def dynC : List Nat := [65, 63, 5, 66, 67, 68, 69, 70, 4, 2, 72]
def dynM : List Nat := [0, 17, 18, 33, 34, 35, 36, 37, 32]
def FrC (σ σ2 : HS) : Prop := σ2.2 = σ.2 ∧ (∀ k, k ∉ dynC → σ2.1 k = σ.1 k) ∧ ∀ i s, s ≠ 4 → σ2.1 2 i s = σ.1 2 i s
def FrM (σ σ2 : HS) : Prop := σ2.2 = σ.2 ∧ (∀ k, k ∉ dynM → σ2.1 k = σ.1 k) ∧ ∀ i s, s ≠ 8 → s ≠ 43 → σ2.1 0 i s = σ.1 0 i s
def FrA (σ σ2 : HS) : Prop := σ2.2 = σ.2 ∧ (∀ k, k ∉ dynC → k ∉ dynM → σ2.1 k = σ.1 k) ∧ (∀ i s, s ≠ 4 → σ2.1 2 i s = σ.1 2 i s) ∧ ∀ i s, s ≠ 8 → s ≠ 43 → σ2.1 0 i s = σ.1 0 i s
theorem FrC.rf {σ : HS} : FrC σ σ := ⟨rfl, fun _ _ => rfl, fun _ _ _ => rfl⟩
theorem FrM.rf {σ : HS} : FrM σ σ := ⟨rfl, fun _ _ => rfl, fun _ _ _ _ => rfl⟩
theorem FrC.tr {σ σ2 σ3 : HS} (h : FrC σ σ2) (g : FrC σ2 σ3) : FrC σ σ3 := ⟨g.1.trans h.1, fun k hk => (g.2.1 k hk).trans (h.2.1 k hk), fun i s hs => (g.2.2 i s hs).trans (h.2.2 i s hs)⟩
theorem FrM.tr {σ σ2 σ3 : HS} (h : FrM σ σ2) (g : FrM σ2 σ3) : FrM σ σ3 := ⟨g.1.trans h.1, fun k hk => (g.2.1 k hk).trans (h.2.1 k hk), fun i s hs hs2 => (g.2.2 i s hs hs2).trans (h.2.2 i s hs hs2)⟩
theorem FrA.rf {σ : HS} : FrA σ σ := ⟨rfl, fun _ _ _ => rfl, fun _ _ _ => rfl, fun _ _ _ _ => rfl⟩
theorem FrA.c {G σ σ2 : HS} (h : FrA G σ) (g : FrC σ σ2) : FrA G σ2 := ⟨g.1.trans h.1, fun k hk hm => (g.2.1 k hk).trans (h.2.1 k hk hm), fun i s hs => (g.2.2 i s hs).trans (h.2.2.1 i s hs), fun i s hs hs2 => (congrFun (congrFun (g.2.1 0 (by decide)) i) s).trans (h.2.2.2 i s hs hs2)⟩
theorem FrA.m {G σ σ2 : HS} (h : FrA G σ) (g : FrM σ σ2) : FrA G σ2 := ⟨g.1.trans h.1, fun k hk hm => (g.2.1 k hm).trans (h.2.1 k hk hm), fun i s hs => (congrFun (congrFun (g.2.1 2 (by decide)) i) s).trans (h.2.2.1 i s hs), fun i s hs hs2 => (g.2.2 i s hs hs2).trans (h.2.2.2 i s hs hs2)⟩
theorem FrC.set {σ σ2 : HS} {k i s : Nat} {x : Int32} (h : FrC σ σ2) (hk : k ∈ dynC) (hn : k ≠ 2) : FrC σ (up σ2 k i s x) := by
  refine ⟨h.1, fun k2 h2 => ?_, fun i2 s2 h2 => ?_⟩
  · rw [up_ne (fun (e : k2 = k) => h2 (by rw [e]; exact hk))]
    exact h.2.1 k2 h2
  · rw [up_ne (fun e => hn e.symm)]
    exact h.2.2 i2 s2 h2
theorem FrM.set {σ σ2 : HS} {k i s : Nat} {x : Int32} (h : FrM σ σ2) (hk : k ∈ dynM) (hn : k ≠ 0) : FrM σ (up σ2 k i s x) := by
  refine ⟨h.1, fun k2 h2 => ?_, fun i2 s2 h2 h3 => ?_⟩
  · rw [up_ne (fun (e : k2 = k) => h2 (by rw [e]; exact hk))]
    exact h.2.1 k2 h2
  · rw [up_ne (fun e => hn e.symm)]
    exact h.2.2 i2 s2 h2 h3
theorem FrC.setB {σ σ2 : HS} {k i b n : Nat} {f : Nat → Int32} (h : FrC σ σ2) (hk : k ∈ dynC) (hn : k ≠ 2) : FrC σ (upB σ2 k i b n f) := by
  refine ⟨h.1, fun k2 h2 => ?_, fun i2 s2 h2 => ?_⟩
  · rw [upB_ne (fun (e : k2 = k) => h2 (by rw [e]; exact hk))]
    exact h.2.1 k2 h2
  · rw [upB_ne (fun e => hn e.symm)]
    exact h.2.2 i2 s2 h2
theorem FrM.setB {σ σ2 : HS} {k i b n : Nat} {f : Nat → Int32} (h : FrM σ σ2) (hk : k ∈ dynM) (hn : k ≠ 0) : FrM σ (upB σ2 k i b n f) := by
  refine ⟨h.1, fun k2 h2 => ?_, fun i2 s2 h2 h3 => ?_⟩
  · rw [upB_ne (fun (e : k2 = k) => h2 (by rw [e]; exact hk))]
    exact h.2.1 k2 h2
  · rw [upB_ne (fun e => hn e.symm)]
    exact h.2.2 i2 s2 h2 h3
theorem FrM.setM {σ σ2 : HS} {s : Nat} {x : Int32} (h : FrM σ σ2) (hs : s = 8 ∨ s = 43) : FrM σ (up σ2 0 0 s x) := by
  refine ⟨h.1, fun k2 h2 => ?_, fun i2 s2 h2 h3 => ?_⟩
  · rw [up_ne (fun e => h2 (by rw [e]; decide))]
    exact h.2.1 k2 h2
  · rw [up_k, if_neg (fun e => hs.elim (fun z => h2 (e.2.trans z)) (fun z => h3 (e.2.trans z)))]
    exact h.2.2 i2 s2 h2 h3
theorem FrC.setL {σ σ2 : HS} {x : Int32} (h : FrC σ σ2) : FrC σ (up σ2 2 0 4 x) := by
  refine ⟨h.1, fun k2 h2 => ?_, fun i2 s2 h2 => ?_⟩
  · rw [up_ne (fun e => h2 (by rw [e]; decide))]
    exact h.2.1 k2 h2
  · rw [up_k, if_neg (fun e => h2 e.2)]
    exact h.2.2 i2 s2 h2
/-! the still parts, read in a state -/
theorem Inv.nle {G : HS} (h : Inv G) : gN G ≤ 8 ∧ G.1 0 0 7 = nI (gN G) ∧ G.1 2 0 3 = nI (gN G) := by
  obtain ⟨n, hn, e1, e2, _⟩ := h.1
  have : gN G = n := by unfold gN; rw [e1, vN_nI (by omega)]
  rw [this]
  exact ⟨hn, e1, e2⟩
theorem Inv.rle {G : HS} (h : Inv G) (t : Nat) (ht : t < 8) : gR G t ≤ 100000 ∧ G.1 12 0 t = nI (gR G t) ∧ G.1 3 t 0 = nI (gR G t) := by
  obtain ⟨h1, _, _, h2, _⟩ := h.2.2.1 t ht
  obtain ⟨e, e2⟩ := isN_vN h1 (by omega)
  exact ⟨e2, e, h2.trans e⟩
theorem Inv.ple {G : HS} (h : Inv G) (t : Nat) (ht : t < 8) : gP G t ≤ 1000 ∧ G.1 13 0 t = nI (gP G t) ∧ G.1 3 t 1 = nI (gP G t) := by
  obtain ⟨_, h1, _, _, h2, _⟩ := h.2.2.1 t ht
  obtain ⟨e, e2⟩ := isN_vN h1 (by omega)
  exact ⟨e2, e, h2.trans e⟩
theorem Inv.kle {G : HS} (h : Inv G) (k : Nat) (hk : k < 3) : 1 ≤ gK G k ∧ gK G k ≤ 60 ∧ G.1 16 0 k = nI (gK G k) ∧ G.1 62 0 k = nI (gK G k) := by
  obtain ⟨h1, x, hx1, hx2, h2⟩ := h.2.2.2.2.1 k hk
  have : gK G k = x := by unfold gK; rw [h2, vN_nI (by omega)]
  rw [this, h1]
  exact ⟨hx1, hx2, h2, h2⟩
theorem FrA.k {G σ : HS} (h : FrA G σ) {k : Nat} (h1 : k ∉ dynC) (h2 : k ∉ dynM) : σ.1 k = G.1 k := h.2.1 k h1 h2
/-! one load comes -/
def stoP (G : HS) (S : MS) (t k a x : Nat) : MS := (uF S.1 (61 * (3 * t + k) + a) (S.1 (61 * (3 * t + k) + a) + min x (gR G t - tot S.1 t)), S.2.1, uF S.2.2.1 2 (S.2.2.1 2 + (nI x - nI (min x (gR G t - tot S.1 t)))), S.2.2.2)
def sadd (S : MS) (i : Nat) (x : Int32) : MS := (S.1, S.2.1, uF S.2.2.1 i (S.2.2.1 i + x), S.2.2.2)
def arP (G : HS) (S : MS) (q : Ld) : MS :=
  if q.2.2.2.2 = S.2.2.2 then (if gK G q.2.1 < q.2.2.1 then sadd (sadd S 5 (nI q.2.2.2.1)) 1 (nI q.2.2.2.1) else stoP G (sadd S 5 (nI q.2.2.2.1)) q.1 q.2.1 q.2.2.1 q.2.2.2.1)
  else (S.1, S.2.1 ++ [q], S.2.2.1, S.2.2.2)
theorem sm_row_upd {L : Nat → Nat} {r a v : Nat} (ha : a < 61) : sm (uF (row L r) a v) 61 + L (61 * r + a) = sm (row L r) 61 + v := sm_upd (row L r) v ha
theorem CLo.blk {σ σ2 : HS} {L : Nat → Nat} {t k : Nat} {f : Nat → Nat} (h : CLo σ L) (hk : k < 3)
    (a1 : ∀ r a, r < 24 → a < 61 → σ2.1 65 r a = if r = 3 * t + k then nI (f a) else σ.1 65 r a)
    (a2 : ∀ t2 k2, t2 < 8 → k2 < 3 → σ2.1 63 t2 k2 = if t2 = t ∧ k2 = k then nI (sm f 61) else σ.1 63 t2 k2) : CLo σ2 (blF L (3 * t + k) f) := by
  refine ⟨fun r a hr ha => ?_, fun t2 k2 ht2 hk2 => ?_⟩
  · rw [a1 r a hr ha]
    by_cases e : r = 3 * t + k
    · rw [if_pos e, e, blF_in ha]
    · rw [if_neg e, blF_out ha e]
      exact h.1 r a hr ha
  · rw [a2 t2 k2 ht2 hk2, sm_blF]
    by_cases e : t2 = t ∧ k2 = k
    · rw [if_pos e, if_pos (by omega)]
    · rw [if_neg e, if_neg (by omega)]
      exact h.2 t2 k2 ht2 hk2
theorem CLo.kinds {σ σ2 : HS} {L : Nat → Nat} (h : CLo σ L) (e1 : σ2.1 65 = σ.1 65) (e2 : σ2.1 63 = σ.1 63) : CLo σ2 L := by
  unfold CLo
  rw [e1, e2]
  exact h
theorem CSu.kinds {σ σ2 : HS} {s : Nat → Int32} (h : CSu σ s) (e1 : σ2.1 4 = σ.1 4) : CSu σ2 s := by
  unfold CSu
  rw [e1]
  exact h
theorem MSu.kinds {σ σ2 : HS} {s : Nat → Int32} (h : MSu σ s) (e1 : σ2.1 18 = σ.1 18) : MSu σ2 s := by
  unfold MSu
  rw [e1]
  exact h
theorem MLo.kinds {σ σ2 : HS} {L : Nat → Nat} (h : MLo σ L) (e1 : σ2.1 17 = σ.1 17) : MLo σ2 L := by
  unfold MLo
  rw [e1]
  exact h
theorem MLo.lok {σ : HS} {L : Nat → Nat} (h : MLo σ L) (hL : ∀ j, j < 1464 → L j ≤ 100000) : LOK σ := fun j hj => ⟨L j, hL j hj, h j hj⟩
theorem MLo.lm {σ : HS} {L : Nat → Nat} (h : MLo σ L) (hL : ∀ j, j < 1464 → L j ≤ 100000) {j : Nat} (hj : j < 1464) : Lm σ j = L j := by
  unfold Lm
  rw [h j hj, vN_nI (by have := hL j hj; omega)]
