/-! numbers, sums, heaps -/
theorem up_ne {σ : HS} {k i s : Nat} {x : Int32} {k' : Nat} (h : k' ≠ k) : (up σ k i s x).1 k' = σ.1 k' := by
  funext i' s'
  simp [up, h]
theorem up_k {σ : HS} {k i s : Nat} {x : Int32} {i' s' : Nat} : (up σ k i s x).1 k i' s' = if i' = i ∧ s' = s then x else σ.1 k i' s' := by
  simp [up]
theorem up_same {σ : HS} {k i s : Nat} {x : Int32} : (up σ k i s x).1 k i s = x := by
  simp [up]
theorem up_2 {σ : HS} {k i s : Nat} {x : Int32} : (up σ k i s x).2 = σ.2 := rfl
def upB (σ : HS) (k i b n : Nat) (f : Nat → Int32) : HS := (fun k' i' s' => if k' = k ∧ i' = i ∧ b ≤ s' ∧ s' < b + n then f (s' - b) else σ.1 k' i' s', σ.2)
theorem upB_ne {σ : HS} {k i b n : Nat} {f : Nat → Int32} {k' : Nat} (h : k' ≠ k) : (upB σ k i b n f).1 k' = σ.1 k' := by
  funext i' s'
  simp [upB, h]
theorem upB_k {σ : HS} {k i b n : Nat} {f : Nat → Int32} {i' s' : Nat} : (upB σ k i b n f).1 k i' s' = if i' = i ∧ b ≤ s' ∧ s' < b + n then f (s' - b) else σ.1 k i' s' := by
  simp [upB]
theorem upB_2 {σ : HS} {k i b n : Nat} {f : Nat → Int32} : (upB σ k i b n f).2 = σ.2 := rfl
theorem hs_ext {σ σ' : HS} (h1 : ∀ k i s, σ.1 k i s = σ'.1 k i s) (h2 : σ.2 = σ'.2) : σ = σ' := by
  rcases σ with ⟨a, b⟩
  rcases σ' with ⟨a', b'⟩
  have : a = a' := funext fun k => funext fun i => funext fun s => h1 k i s
  cases this
  cases h2
  rfl
theorem upB_0 {σ : HS} {k i b : Nat} {f : Nat → Int32} : upB σ k i b 0 f = σ := by
  refine hs_ext (fun k' i' s' => ?_) rfl
  show (if _ then _ else _) = _
  rw [if_neg (by omega)]
theorem upB_succ {σ : HS} {k i b n : Nat} {f : Nat → Int32} : up (upB σ k i b n f) k i (b + n) (f n) = upB σ k i b (n + 1) f := by
  refine hs_ext (fun k' i' s' => ?_) rfl
  show (if _ then _ else (if _ then _ else _)) = (if _ then _ else _)
  by_cases e : k' = k ∧ i' = i
  · obtain ⟨rfl, rfl⟩ := e
    by_cases h1 : s' = b + n
    · subst h1
      rw [if_pos ⟨rfl, rfl, rfl⟩, if_pos ⟨rfl, rfl, by omega, by omega⟩]
      congr 1
      omega
    · rw [if_neg (fun z => h1 z.2.2)]
      by_cases h2 : b ≤ s' ∧ s' < b + n
      · rw [if_pos ⟨rfl, rfl, h2.1, h2.2⟩, if_pos ⟨rfl, rfl, h2.1, by omega⟩]
      · rw [if_neg (fun z => h2 z.2.2), if_neg (fun z => h2 ⟨z.2.2.1, by omega⟩)]
  · rw [if_neg (fun z => e ⟨z.1, z.2.1⟩), if_neg (fun z => e ⟨z.1, z.2.1⟩), if_neg (fun z => e ⟨z.1, z.2.1⟩)]
theorem upB_up {σ : HS} {k i b n j : Nat} {f : Nat → Int32} {x : Int32} (hj : j < n) : up (upB σ k i b n f) k i (b + j) x = upB σ k i b n (fun s => if s = j then x else f s) := by
  refine hs_ext (fun k' i' s' => ?_) rfl
  simp only [upB, up]
  by_cases e : k' = k ∧ i' = i
  · obtain ⟨rfl, rfl⟩ := e
    simp only [true_and]
    by_cases h1 : s' = b + j
    · subst h1
      rw [if_pos rfl, if_pos ⟨by omega, by omega⟩, if_pos (by omega)]
    · rw [if_neg h1]
      by_cases h2 : b ≤ s' ∧ s' < b + n
      · rw [if_pos h2, if_pos h2, if_neg (by omega)]
      · rw [if_neg h2, if_neg h2]
  · rw [if_neg (fun z => e ⟨z.1, z.2.1⟩), if_neg (fun z => e ⟨z.1, z.2.1⟩), if_neg (fun z => e ⟨z.1, z.2.1⟩)]
theorem upB_self {σ : HS} {k i b n : Nat} {f : Nat → Int32} (h : ∀ j, j < n → f j = σ.1 k i (b + j)) : upB σ k i b n f = σ := by
  refine hs_ext (fun k' i' s' => ?_) rfl
  show (if _ then _ else _) = _
  by_cases e : k' = k ∧ i' = i ∧ b ≤ s' ∧ s' < b + n
  · rw [if_pos e]
    obtain ⟨rfl, rfl, h1, h2⟩ := e
    rw [h _ (by omega), Nat.add_sub_cancel' h1]
  · rw [if_neg e]
theorem upB_cong {σ : HS} {k i b n : Nat} {f g : Nat → Int32} (h : ∀ j, j < n → f j = g j) : upB σ k i b n f = upB σ k i b n g := by
  refine hs_ext (fun k' i' s' => ?_) rfl
  show (if _ then _ else _) = (if _ then _ else _)
  by_cases e : k' = k ∧ i' = i ∧ b ≤ s' ∧ s' < b + n
  · rw [if_pos e, if_pos e, h _ (by omega)]
  · rw [if_neg e, if_neg e]
/-! Arrays.fill -/
theorem fill_loop (d k i n : Nat) (v : Int32) (σ : HS) (Q : Option AV → HS → Prop) (hk : k < sh_NK) (ha : sh_arr k = some (0, n)) (hno : sh_obj k = none) (hi : i < sh_cnt k) (hz : ∀ j, intS k i j = true) (hn : n < 2 ^ 31) (h : Q none (upB σ k i 0 n (fun _ => v))) :
    ∀ m j : Nat, j + m = n → EV d mJ7_fill_53178 5 [some (vR k i), some (vI v), some (vI (nI j)), some (vI (nI n))] [] (upB σ k i 0 j (fun _ => v)) Q := by
  intro m
  induction m with
  | zero =>
    intro j hj
    have e : j = n := by omega
    subst e
    exact EV.iload_n (pc := 5) dJ7_fill_53178_5 rfl <| EV.iload_n (pc := 6) dJ7_fill_53178_6 rfl <| EV.icmp_ge (pc := 7) (tgt := 20) dJ7_fill_53178_7 (by decide) (fun _ => EV.vret (pc := 20) dJ7_fill_53178_20 rfl h) (fun q => absurd (nI_le (Nat.le_refl j) hn) q)
  | succ m ih =>
    intro j hj
    refine EV.iload_n (pc := 5) dJ7_fill_53178_5 rfl <| EV.iload_n (pc := 6) dJ7_fill_53178_6 rfl <| EV.icmp_ge (pc := 7) (tgt := 20) dJ7_fill_53178_7 (by decide) (fun q => absurd q (nI_ge (by omega) hn)) (fun _ => EV.aload_n (pc := 10) dJ7_fill_53178_10 rfl <| EV.iload_n (pc := 11) dJ7_fill_53178_11 rfl <| EV.iload_n (pc := 12) dJ7_fill_53178_12 rfl <| EV.iast (pc := 13) dJ7_fill_53178_13 hk ha hno hi (vp_in_nI (by omega) hn) (hz _) <| EV.iincN (v := 1) (ls2 := fun y => [some (vR k i), some (vI v), some (vI y), some (vI (nI n))]) (pc := 14) dJ7_fill_53178_14 rfl rfl (by decide) rfl (fun _ => rfl) <| fun x ex => EV.goto (pc := 17) (tgt := 5) dJ7_fill_53178_17 (by decide) ?_)
    rw [nI_1] at ex
    subst ex
    rw [nI_clamp (by omega)]
    have := ih (j + 1) (by omega)
    rw [← upB_succ, Nat.zero_add] at this
    exact this
theorem pu_fill (d k i n : Nat) (v : Int32) (σ : HS) (Q : Option AV → HS → Prop) (hk : k < sh_NK) (ha : sh_arr k = some (0, n)) (hno : sh_obj k = none) (hi : i < sh_cnt k) (hz : ∀ j, intS k i j = true) (hn : n < 2 ^ 31) (h : Q none (upB σ k i 0 n (fun _ => v))) : MT d mJ7_fill_53178 [vR k i, vI v] σ Q := by
  show EV d mJ7_fill_53178 0 [some (vR k i), some (vI v), none, none] [] σ Q
  refine EV.iconst (v := 0) (pc := 0) dJ7_fill_53178_0 rfl <| EV.istore_nK (ls2 := [some (vR k i), some (vI v), some (vI 0), none]) (pc := 1) dJ7_fill_53178_1 (by decide) rfl rfl <| EV.aload_n (pc := 2) dJ7_fill_53178_2 rfl <| EV.alen (v := nI n) (pc := 3) dJ7_fill_53178_3 hk ha (by decide) hi rfl <| EV.istore_nK (ls2 := [some (vR k i), some (vI v), some (vI 0), some (vI (nI n))]) (pc := 4) dJ7_fill_53178_4 (by decide) rfl rfl ?_
  have := fill_loop d k i n v σ Q hk ha hno hi hz hn h n 0 (by omega)
  rw [upB_0, nI_0] at this
  exact this
/-! sums of natural numbers -/
def sm (f : Nat → Nat) : Nat → Nat
  | 0 => 0
  | n + 1 => sm f n + f n
theorem sm_succ (f : Nat → Nat) (n : Nat) : sm f (n + 1) = sm f n + f n := rfl
theorem sm_cong {f g : Nat → Nat} : ∀ {n : Nat}, (∀ k, k < n → f k = g k) → sm f n = sm g n
  | 0, _ => rfl
  | n + 1, h => by rw [sm_succ, sm_succ, sm_cong (fun k hk => h k (by omega)), h n (by omega)]
theorem sm_split (f : Nat → Nat) (m : Nat) : ∀ n, sm f (m + n) = sm f m + sm (fun k => f (m + k)) n
  | 0 => rfl
  | n + 1 => by
    have h := sm_split f m n
    rw [← Nat.add_assoc, sm_succ, h, sm_succ, Nat.add_assoc]
theorem sm_upd (f : Nat → Nat) (v : Nat) {i : Nat} : ∀ {n : Nat}, i < n → sm (fun k => if k = i then v else f k) n + f i = sm f n + v
  | 0, h => absurd h (Nat.not_lt_zero i)
  | n + 1, h => by
    rw [sm_succ, sm_succ]
    by_cases e : i = n
    · subst e
      rw [if_pos rfl, sm_cong (g := f) (fun k hk => if_neg (by omega))]
      omega
    · have := sm_upd f v (i := i) (n := n) (by omega)
      rw [if_neg (fun z => e z.symm)]
      omega
theorem sm_le {f g : Nat → Nat} : ∀ {n : Nat}, (∀ k, k < n → f k ≤ g k) → sm f n ≤ sm g n
  | 0, _ => Nat.le_refl _
  | n + 1, h => by
    have h1 := sm_le (n := n) (fun k hk => h k (by omega))
    have h2 := h n (by omega)
    rw [sm_succ, sm_succ]
    omega
theorem sm_part (f : Nat → Nat) : ∀ {i n : Nat}, i < n → f i ≤ sm f n
  | i, 0, h => absurd h (Nat.not_lt_zero i)
  | i, n + 1, h => by
    rw [sm_succ]
    by_cases e : i = n
    · subst e; omega
    · have := sm_part f (i := i) (n := n) (by omega)
      omega
theorem sm_zero : ∀ {f : Nat → Nat} {n : Nat}, (∀ k, k < n → f k = 0) → sm f n = 0
  | f, 0, _ => rfl
  | f, n + 1, h => by rw [sm_succ, sm_zero (fun k hk => h k (by omega)), h n (by omega)]
theorem sm_const (c : Nat) : ∀ n, sm (fun _ => c) n = n * c
  | 0 => by rw [Nat.zero_mul]; rfl
  | n + 1 => by rw [sm_succ, sm_const c n, Nat.succ_mul]
theorem sm_add (f g : Nat → Nat) : ∀ n, sm (fun k => f k + g k) n = sm f n + sm g n
  | 0 => rfl
  | n + 1 => by
    rw [sm_succ, sm_succ, sm_succ, sm_add f g n]
    omega
def vN (x : Int32) : Nat := x.toNatClampNeg
theorem vN_nI {n : Nat} (h : n < 2 ^ 31) : vN (nI n) = n := nI_clamp h
def isN (x : Int32) (m : Nat) : Prop := ∃ n : Nat, n ≤ m ∧ x = nI n
theorem isN_vN {x : Int32} {m : Nat} (h : isN x m) (hm : m < 2 ^ 31) : x = nI (vN x) ∧ vN x ≤ m := by
  obtain ⟨n, h1, rfl⟩ := h
  rw [vN_nI (by omega)]
  exact ⟨rfl, h1⟩
