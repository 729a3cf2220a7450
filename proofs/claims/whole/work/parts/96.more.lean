/-! the start: arrays of references, a filled array -/
theorem nI_cl {i : Nat} (h : i < 2 ^ 31) : (nI i).toNatClampNeg = i := nI_clamp h
section STD
variable {p : Program} {l : Launch} {e : Env} {R : Room} {s : State} {m : MethodId} {args : Array Value} {below : List Frame} {meth : Method} {c : Code} {H H0 : Heap} {locs : List Loc} {cells slots cells' slots' : Nat} {Z : State → Prop} {E : EE} {B0 : Nat} {own : String} {cc : ByteArray} {nL : Nat} {lr : Array Slot} {pc : Nat} {rest : List Value} {ci o N : Nat} {r : vw_C} {f : Nat → Value} {D : PD}
def DM2 (B0 : Nat) (D : PD) (N n k : Nat) : PD := fun j => if j = N then some (4, n, fun i => .ref (B0 + (N + 1 + i))) else if N < j ∧ j < N + 1 + n then some (0, k, z0) else D j
theorem C_mm {idx n k : Nat} {a b : Int32} (he : CE E B0 own cc nL p s m args meth c) (hC : CI E B0 ci r o N f D H0 H) (hl : LO B0 locs) (hN : N + 1 + n ≤ 164) (hclink : Cond.classLink own idx "[[I" ∈ WALL) (h : decode cc pc = .ok (.multianewarray idx 2, 4)) (ha : a.toNatClampNeg = n) (hb2 : b.toNatClampNeg = k) (ha0 : ¬ a < 0) (hb0 : ¬ b < 0) (hn0 : 0 < n) (hk : k ≤ 1000)
    (hcs : cells + (1 + n) = cells') (hcl : cells' ≤ R.cells) (hss : slots + (n + n * k) = slots') (hsl : slots' ≤ R.slots)
    (kk : ∀ (H' : Heap) (locs' : List Loc), CI E B0 ci r o (N + 1 + n) f (DM2 B0 D N n k) H0 H' → LO B0 locs' → W p l e R s m args below meth c H' locs' cells' slots' Z (F0 m (pc + 4) lr (.ref (B0 + N) :: rest))) : W p l e R s m args below meth c H locs cells slots Z (F0 m pc lr (.int b :: .int a :: rest)) := by
  subst hcs; subst hss
  obtain ⟨hx1, hb, hml, hret, hown, hts, hlocks, hnm, hK, hE⟩ := he
  obtain ⟨c1, c2, c3, c4, c5⟩ := hC
  have hfI : s.vm.findClass "[I" = some (E.2.1 0) := hK.2.2.2.1 0 (by decide)
  have hfA : s.vm.findClass "[[I" = some (E.2.1 4) := hK.2.2.2.1 4 (by decide)
  obtain ⟨-, kI, hkI, comp, hI⟩ := hK.2.1 0 (by decide) 0 z0
  refine W.multi hx1 hb hown (hts _ hclink) hK.2.2.2.2.2 hfI hkI hI h ha hb2 ha0 hb0 hn0 (by omega) hk hcl hsl c1 (fun H' L cA f1 f2 f3 f4 f5 f6 => ?_)
  have hcA : cA = E.2.1 4 := Option.some.inj (f1.symm.trans hfA)
  subst hcA
  replace f6 : ∀ q : Nat, q < B0 + N → H'[q]? = H[q]? := f6
  replace f5 : ∀ i : Nat, i < n → H'[B0 + N + 1 + i]? = some (arrV (E.2.1 0) k (fun _ => .int 0)) := f5
  refine kk H' _ ⟨by rw [f3]; omega, by omega, c3.kept (f6 _ (by omega)), fun j h1 h2 => ?_, fun q hq => by rw [f6 q (by omega)]; exact c5 q hq⟩ (hl.snoc fun q hq => by rw [f2 q hq]; exact Nat.le_add_right _ _)
  by_cases e1 : j = N
  · subst e1
    unfold GD DM2
    rw [if_pos rfl]
    show H'[B0 + j]? = _
    rw [show H'[B0 + j]? = _ from f4]
    exact congrArg some (arrV_ext fun i _ => congrArg Value.ref (show (B0 + j + 1 + i : Nat) = B0 + (j + 1 + i) by omega))
  · by_cases e2 : N < j ∧ j < N + 1 + n
    · unfold GD DM2
      rw [if_neg e1, if_pos e2]
      have := f5 (j - N - 1) (by omega)
      rw [show B0 + N + 1 + (j - N - 1) = B0 + j by omega] at this
      exact this
    · exact ((c4 j h1 (by omega)).kept hE (by omega) (f6 _ (by omega))).of (by unfold DM2; rw [if_neg e1, if_neg e2])
theorem C_an {idx n : Nat} {a : Int32} (he : CE E B0 own cc nL p s m args meth c) (hC : CI E B0 ci r o N f D H0 H) (hN : N < 164) (hclink : Cond.classLink own idx "StoreRealm$Town" ∈ WALL) (h : decode cc pc = .ok (.anewarray idx, 3)) (ha : a.toNatClampNeg = n) (ha0 : ¬ a < 0) (hn : n ≤ 1000)
    (hcs : cells + 1 = cells') (hcl : cells' ≤ R.cells) (hss : slots + n = slots') (hsl : slots' ≤ R.slots)
    (kk : ∀ (H' : Heap), CI E B0 ci r o (N + 1) f (updD D N (some (3, n, fun _ => .null))) H0 H' → W p l e R s m args below meth c H' locs cells' slots' Z (F0 m (pc + 3) lr (.ref (B0 + N) :: rest))) : W p l e R s m args below meth c H locs cells slots Z (F0 m pc lr (.int a :: rest)) := by
  subst hcs; subst hss; subst ha
  obtain ⟨hx1, hb, hml, hret, hown, hts, hlocks, hnm, hK, hE⟩ := he
  obtain ⟨c1, c2, c3, c4, c5⟩ := hC
  have hfA : s.vm.findClass ("[" ++ (FieldType.object "StoreRealm$Town").toString) = some (E.2.1 3) := hK.2.2.2.1 3 (by decide)
  refine W.anew hx1 hb hown (hts _ hclink) (va_AO.use hK.2.2.2.2.1) rfl h rfl ha0 (by omega) hcl hsl (fun cA kA comp f1 f2 f3 f4 => ?_)
  have hcA : cA = E.2.1 3 := Option.some.inj (f1.symm.trans hfA)
  subst hcA
  rw [arrV_new, c1]
  have e3 : ∀ q : Nat, q < B0 + N → (H.push (arrV (E.2.1 3) a.toNatClampNeg (fun _ => Value.null)))[q]? = H[q]? := fun q hq => by rw [Array.getElem?_push, if_neg (by omega)]
  refine kk _ ⟨by rw [Array.size_push, c1]; rfl, by omega, c3.kept (e3 _ (by omega)), fun j h1 h2 => ?_, fun q hq => by rw [e3 q (by omega)]; exact c5 q hq⟩
  by_cases ej : j = N
  · subst ej
    unfold GD
    rw [updD_eq]
    show (H.push _)[B0 + j]? = _
    rw [Array.getElem?_push, if_pos c1.symm]
  · exact ((c4 j h1 (by omega)).kept hE (by omega) (e3 _ (by omega))).of (updD_ne ej)
theorem C_al {j t n : Nat} {g : Nat → Value} {x : Int32} {v : Value} (he : CE E B0 own cc nL p s m args meth c) (hC : CI E B0 ci r o N f D H0 H) (hj : o < j) (hjN : j < N) (hd : D j = some (t, n, g)) (ht : t < 5) (hrt : (sh_el t).isReference = true) (hin : vp_in x n) (hv : g x.toNatClampNeg = v) (h : decode cc pc = .ok (.aaload, 1))
    (kk : W p l e R s m args below meth c H locs cells slots Z (F0 m (pc + 1) lr (v :: rest))) : W p l e R s m args below meth c H locs cells slots Z (F0 m pc lr (.int x :: .ref (B0 + j) :: rest)) := by
  obtain ⟨hx1, hb, hml, hret, hown, hts, hlocks, hnm, hK, hE⟩ := he
  obtain ⟨c1, c2, c3, c4, c5⟩ := hC
  exact W.aald hx1 hb ((c4 j hj hjN).at hd) (hK.2.1 t ht _ _) hrt (fun z => by cases z) (by rw [arrV_size]; exact hin) (by rw [arrV_read _ _ (vp_lt hin), hv]) rfl rfl h kk
/-- a town into the array of towns -/
theorem C_as {j j2 n : Nat} {g : Nat → Value} {x : Int32} (he : CE E B0 own cc nL p s m args meth c) (hC : CI E B0 ci r o N f D H0 H) (hl : LO B0 locs) (hN : N ≤ 164) (hj : o < j) (hjN : j < N) (hd : D j = some (3, n, g)) (hj2 : o < j2) (hj2N : j2 < N) (hd2 : D j2 = none) (hk2 : sh_obj (okd j2) = some 9) (hin : vp_in x n) (h : decode cc pc = .ok (.aastore, 1))
    (kk : ∀ (H' : Heap) (locs' : List Loc), CI E B0 ci r o N f (updD D j (some (3, n, updV g x.toNatClampNeg (.ref (B0 + j2))))) H0 H' → LO B0 locs' → W p l e R s m args below meth c H' locs' cells slots Z (F0 m (pc + 1) lr rest)) : W p l e R s m args below meth c H locs cells slots Z (F0 m pc lr (.ref (B0 + j2) :: .int x :: .ref (B0 + j) :: rest)) := by
  obtain ⟨hx1, hb, hml, hret, hown, hts, hlocks, hnm, hK, hE⟩ := he
  obtain ⟨c1, c2, c3, c4, c5⟩ := hC
  have hr9 : vwCl[9]? = some (RX9, TX9, 6) := cl_9.1
  have hKn := hK.1 9 _ hr9
  obtain ⟨cellV, g1, g2, g3, -⟩ := ((c4 j2 hj2 hj2N).rc hd2).1 9 _ hk2 hr9
  rw [hE j2 (by omega)] at g1
  obtain ⟨comp, cA, kA, q1, q2, q3, q4, q5⟩ := Cond.arrayOver_spec (va_AO.use (A := #[]) hK.2.2.2.2.1)
  have hcA : cA = E.2.1 3 := Option.some.inj (q5.symm.trans (hK.2.2.2.1 3 (by decide)))
  subst hcA
  have hcomp : comp = E.1.1 9 := Option.some.inj (q1.symm.trans hKn.2.1)
  subst hcomp
  obtain ⟨kC, hkC, -⟩ := hKn.2.2
  have hlt := vp_lt hin
  refine W.aast hx1 hb ((c4 j hj hjN).at hd) (fun q z => by cases z) (fun z => by cases z) q3 q4 rfl hkC ⟨fun z => hin (Or.inl z), by rw [arrV_size]; exact hlt⟩ g1 (fun q z => by rw [g3] at z; cases z) (by rw [g2]; exact hkC) (by rw [g2]; exact va_assign hKn.2) rfl rfl h (fun H' e1 e2 e3 => ?_)
  rw [arrV_store] at e1
  replace e3 : ∀ q : Nat, q ≠ B0 + j → H'[q]? = H[q]? := e3
  refine kk H' _ ⟨by rw [e2]; exact c1, c2, c3.kept (e3 _ (by omega)), fun q h1 h2 => ?_, fun q hq => by rw [e3 q (by omega)]; exact c5 q hq⟩ (hl.snoc fun q hq => ?_)
  · by_cases eq : q = j
    · subst eq
      unfold GD
      rw [updD_eq]
      exact e1
    · exact ((c4 q h1 h2).kept hE (by omega) (e3 _ (by omega))).of (updD_ne eq)
  · rw [List.mem_singleton.mp hq]
    exact Nat.le_add_right _ _
end STD
