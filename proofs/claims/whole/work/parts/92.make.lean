/-! the start: what a constructor does, rule by rule -/
def updD (D : PD) (j : Nat) (x : Option (Nat × Nat × (Nat → Value))) : PD := fun j' => if j' = j then x else D j'
theorem updD_eq (D : PD) (j : Nat) (x : Option (Nat × Nat × (Nat → Value))) : updD D j x j = x := if_pos rfl
theorem updD_ne {D : PD} {j j' : Nat} {x : Option (Nat × Nat × (Nat → Value))} (h : j' ≠ j) : updD D j x j' = D j' := if_neg h
theorem ac_0 : Cond.arrayClass (sh_el 0) ∈ WALL := in_place 138 (by decide +kernel) rfl
theorem ac_1 : Cond.arrayClass (sh_el 1) ∈ WALL := in_place 255 (by decide +kernel) rfl
theorem ac_2 : Cond.arrayClass (sh_el 2) ∈ WALL := in_place 256 (by decide +kernel) rfl
def z0 : Nat → Value := fun _ => .int 0
section STB
variable {p : Program} {l : Launch} {e : Env} {R : Room} {s : State} {m : MethodId} {args : Array Value} {below : List Frame} {meth : Method} {c : Code} {H H0 : Heap} {locs : List Loc} {cells slots cells' slots' : Nat} {Z : State → Prop} {E : EE} {B0 : Nat} {own : String} {cc : ByteArray} {nL : Nat} {lr : Array Slot} {pc : Nat} {rest : List Value} {ci o N : Nat} {r : vw_C} {f : Nat → Value} {D : PD}
theorem C_na {atype : ArrayType} {t n : Nat} {x : Int32} (he : CE E B0 own cc nL p s m args meth c) (hC : CI E B0 ci r o N f D H0 H) (hN : N < 164) (h : decode cc pc = .ok (.newarray atype, 2)) (ht : newarray.typeOf atype = sh_el t) (ht5 : t < 5) (hac : Cond.arrayClass (sh_el t) ∈ WALL) (hdf : defaultValue (sh_el t) = .int 0) (hcb : componentBytes (sh_el t) ≤ 4) (hx : x.toNatClampNeg = n) (hx0 : ¬ x < 0) (hn : n ≤ 10000)
    (hcs : cells + 1 = cells') (hcl : cells' ≤ R.cells) (hss : slots + n = slots') (hsl : slots' ≤ R.slots)
    (kk : ∀ (H' : Heap), CI E B0 ci r o (N + 1) f (updD D N (some (t, n, z0))) H0 H' → W p l e R s m args below meth c H' locs cells' slots' Z (F0 m (pc + 2) lr (.ref (B0 + N) :: rest))) : W p l e R s m args below meth c H locs cells slots Z (F0 m pc lr (.int x :: rest)) := by
  subst hcs; subst hss
  obtain ⟨hx1, hb, hml, hret, hown, hts, hlocks, hnm, hK, hE⟩ := he
  obtain ⟨c1, c2, c3, c4, c5⟩ := hC
  refine va_newaK hx1 hb (atype := atype) (by rw [ht]; exact hts _ hac) rfl h rfl hx0 hx (by rw [ht]; exact Nat.le_trans (Nat.mul_le_mul hn hcb) (by decide)) hcl hsl c1 (fun H' cA e1 e2 e3 e4 e5 => ?_)
  rw [ht, hdf] at e1
  rw [ht] at e5
  have hcA : cA = E.2.1 t := Option.some.inj (e5.symm.trans (hK.2.2.2.1 t ht5))
  subst hcA
  refine kk H' ⟨by rw [e2]; omega, by omega, ?_, fun j h1 h2 => ?_, fun q hq => by rw [e3 q (by omega)]; exact c5 q hq⟩
  · exact c3.kept (e3 _ (by omega))
  · by_cases ej : j = N
    · subst ej
      unfold GD
      rw [updD_eq]
      exact e1
    · exact ((c4 j h1 (by omega)).kept hE (by omega) (e3 _ (by omega))).of (updD_ne ej)
theorem CI.done {j t n : Nat} {g : Nat → Value} (hC : CI E B0 ci r o N f D H0 H) (hE : HE E B0) (hj : o < j) (hjN : j < N) (hN : N ≤ 164) (hd : D j = some (t, n, g)) (ho : sh_obj (okd j) = none) (ha : sh_arr (okd j) = some (t, n)) (hg : ∀ s, s < n → g s = tv E (gv hs0 (okd j) (oki j) s)) : CI E B0 ci r o N f (updD D j none) H0 H := by
  obtain ⟨c1, c2, c3, c4, c5⟩ := hC
  refine ⟨c1, c2, c3, fun q h1 h2 => ?_, c5⟩
  by_cases e : q = j
  · subst e
    exact GD.mk (RC.arr hE (by omega) ho ha ((c4 q h1 h2).at hd) hg) (updD_eq _ _ _)
  · exact (c4 q h1 h2).of (updD_ne e)
theorem CI.eqD {D' : PD} (hC : CI E B0 ci r o N f D H0 H) (h : ∀ j, o < j → j < N → D' j = D j) : CI E B0 ci r o N f D' H0 H := by
  obtain ⟨c1, c2, c3, c4, c5⟩ := hC
  exact ⟨c1, c2, c3, fun j h1 h2 => (c4 j h1 h2).of (h j h1 h2), c5⟩
def D0 : PD := fun _ => none
/-- a field gets a new array of zeros -/
theorem C_ap {atype : ArrayType} {t n idx sl : Nat} {x : Int32} {ty : FieldType} (he : CE E B0 own cc nL p s m args meth c) (hC : CI E B0 ci r o N f D H0 H) (hl : LO B0 locs) (hN : N < 164) (h : decode cc pc = .ok (.newarray atype, 2)) (h2 : decode cc (pc + 2) = .ok (.putfield idx, 3)) (hc : CLok ci r) (hf : FL own idx ci r sl) (hd : (r.2.1 sl).1 = own) (hty : parseFieldDescriptor (r.2.1 sl).2.2.1 = some ty) (hn2 : ∀ a : Nat, narrow ty (.ref a) = .ref a ∧ fits ty (.ref a) = true)
    (ht : newarray.typeOf atype = sh_el t) (ht5 : t < 5) (hac : Cond.arrayClass (sh_el t) ∈ WALL) (hdf : defaultValue (sh_el t) = .int 0) (hcb : componentBytes (sh_el t) ≤ 4) (hx : x.toNatClampNeg = n) (hx0 : ¬ x < 0) (hn : n ≤ 10000) (ho : sh_obj (okd N) = none) (ha : sh_arr (okd N) = some (t, n)) (hg : ∀ s, gv hs0 (okd N) (oki N) s = vI 0) (hDN : D N = none)
    (hcs : cells + 1 = cells') (hcl : cells' ≤ R.cells) (hss : slots + n = slots') (hsl : slots' ≤ R.slots)
    (kk : ∀ (H' : Heap) (locs' : List Loc), CI E B0 ci r o (N + 1) (updV f sl (.ref (B0 + N))) D H0 H' → LO B0 locs' → W p l e R s m args below meth c H' locs' cells' slots' Z (F0 m (pc + 5) lr rest)) : W p l e R s m args below meth c H locs cells slots Z (F0 m pc lr (.int x :: .ref (B0 + o) :: rest)) := by
  have hE := he.2.2.2.2.2.2.2.2.2
  have ho1 := hC.2.1
  refine C_na he hC hN h ht ht5 hac hdf hcb hx hx0 hn hcs hcl hss hsl (fun H1 hC1 => ?_)
  have hC2 := (hC1.done hE (j := N) ho1 (by omega) (by omega) (updD_eq _ _ _) ho ha (fun s _ => by rw [hg s]; rfl)).eqD (D' := D) (fun j _ _ => by
    by_cases e : j = N
    · rw [e, updD_eq]; exact hDN
    · rw [updD_ne e, updD_ne e])
  exact C_put he hC2 hl (by omega) h2 hc hf hd hty (hn2 _) kk
/-- a field gets a new array whose content comes later -/
theorem C_aq {atype : ArrayType} {t n idx sl : Nat} {x : Int32} {ty : FieldType} (he : CE E B0 own cc nL p s m args meth c) (hC : CI E B0 ci r o N f D H0 H) (hl : LO B0 locs) (hN : N < 164) (h : decode cc pc = .ok (.newarray atype, 2)) (h2 : decode cc (pc + 2) = .ok (.putfield idx, 3)) (hc : CLok ci r) (hf : FL own idx ci r sl) (hd : (r.2.1 sl).1 = own) (hty : parseFieldDescriptor (r.2.1 sl).2.2.1 = some ty) (hn2 : ∀ a : Nat, narrow ty (.ref a) = .ref a ∧ fits ty (.ref a) = true)
    (ht : newarray.typeOf atype = sh_el t) (ht5 : t < 5) (hac : Cond.arrayClass (sh_el t) ∈ WALL) (hdf : defaultValue (sh_el t) = .int 0) (hcb : componentBytes (sh_el t) ≤ 4) (hx : x.toNatClampNeg = n) (hx0 : ¬ x < 0) (hn : n ≤ 10000)
    (hcs : cells + 1 = cells') (hcl : cells' ≤ R.cells) (hss : slots + n = slots') (hsl : slots' ≤ R.slots)
    (kk : ∀ (H' : Heap) (locs' : List Loc), CI E B0 ci r o (N + 1) (updV f sl (.ref (B0 + N))) (updD D N (some (t, n, z0))) H0 H' → LO B0 locs' → W p l e R s m args below meth c H' locs' cells' slots' Z (F0 m (pc + 5) lr rest)) : W p l e R s m args below meth c H locs cells slots Z (F0 m pc lr (.int x :: .ref (B0 + o) :: rest)) :=
  C_na he hC hN h ht ht5 hac hdf hcb hx hx0 hn hcs hcl hss hsl (fun H1 hC1 => C_put he hC1 hl (by omega) h2 hc hf hd hty (hn2 _) kk)
/-- an int into a waiting array -/
theorem C_ia {j t n : Nat} {g : Nat → Value} {x v : Int32} (he : CE E B0 own cc nL p s m args meth c) (hC : CI E B0 ci r o N f D H0 H) (hl : LO B0 locs) (hN : N ≤ 164) (hj : o < j) (hjN : j < N) (hd : D j = some (0, n, g)) (hin : vp_in x n) (h : decode cc pc = .ok (.iastore, 1))
    (kk : ∀ (H' : Heap) (locs' : List Loc), CI E B0 ci r o N f (updD D j (some (0, n, updV g x.toNatClampNeg (.int v)))) H0 H' → LO B0 locs' → W p l e R s m args below meth c H' locs' cells slots Z (F0 m (pc + 1) lr rest)) : W p l e R s m args below meth c H locs cells slots Z (F0 m pc lr (.int v :: .int x :: .ref (B0 + j) :: rest)) := by
  obtain ⟨hx1, hb, hml, hret, hown, hts, hlocks, hnm, hK, hE⟩ := he
  obtain ⟨c1, c2, c3, c4, c5⟩ := hC
  refine W.iast hx1 hb ((c4 j hj hjN).at hd) (hK.2.1 0 (by decide) _ _) (fun z => by cases z) (by rw [arrV_size]; exact hin) rfl rfl h (fun H' e1 e2 e3 => ?_)
  rw [arrV_store] at e1
  replace e3 : ∀ q : Nat, q ≠ B0 + j → H'[q]? = H[q]? := e3
  refine kk H' _ ⟨by rw [e2]; exact c1, c2, c3.kept (e3 _ (by omega)), fun q h1 h2 => ?_, fun q hq => by rw [e3 q (by omega)]; exact c5 q hq⟩ (hl.snoc fun q hq => ?_)
  · by_cases eq : q = j
    · subst eq
      unfold GD
      rw [updD_eq]
      exact e1
    · exact ((c4 q h1 h2).kept hE (by omega) (e3 _ (by omega))).of (updD_ne eq)
  · rw [List.mem_singleton.mp hq]
    exact Nat.le_add_right _ _
/-- a field of the object under way -/
theorem C_get {idx sl : Nat} {v : Value} (he : CE E B0 own cc nL p s m args meth c) (hC : CI E B0 ci r o N f D H0 H) (h : decode cc pc = .ok (.getfield idx, 3)) (hc : CLok ci r) (hf : FL own idx ci r sl) (hv : f sl = v)
    (kk : W p l e R s m args below meth c H locs cells slots Z (F0 m (pc + 3) lr (v :: rest))) : W p l e R s m args below meth c H locs cells slots Z (F0 m pc lr (.ref (B0 + o) :: rest)) := by
  obtain ⟨hx, hb, hml, hret, hown, hts, hlocks, hnm, hK, hE⟩ := he
  obtain ⟨hr, hin, -, -⟩ := hc
  obtain ⟨hs, hlink⟩ := hf
  obtain ⟨c1, c2, ⟨cell, q1, q2, q3, q4⟩, c4, c5⟩ := hC
  obtain ⟨hS', hfc, kC, hkC, hkind⟩ := hK.1 ci r hr
  obtain ⟨cf, kf, fi, fd, hi', hsl⟩ := hS' sl hs
  refine W.getf hx hb hown (hts _ hlink) hi' (u_facts hfc hkC (u_lays hts hin hs) hi').1 q1 (by rw [q3]; exact fun h => by cases h) (v := v) ?_ rfl rfl h kk
  rw [hsl, q4 sl hs, hv]
theorem C_obj {idx : Nat} (he : CE E B0 own cc nL p s m args meth c) (hlk : Cond.methodLink own idx Lib.objectInit ∈ WALL) (hin : Cond.instanceMethod Lib.objectInit ∈ WALL) (hco : Cond.code Lib.objectInit ⟨#[0xb1]⟩ 1 none ∈ WALL) (hsz : lr.size = nL) (h0 : decode cc 0 = .ok (.aload_n 0, 1)) (h : decode cc 1 = .ok (.invokespecial idx, 3)) (ha : lr[0]? = some (.val (.ref (B0 + o)))) (hRf : 1 ≤ R.frames) (hRl : 12 ≤ R.locals)
    (kk : W p l e R s m args below meth c H locs cells slots Z (F0 m 4 lr [])) : W p l e R s m args below meth c H locs cells slots Z (F0 m 0 lr []) := by
  obtain ⟨hx, hb, hml, hret, hown, hts, hlocks, hnm, hK, hE⟩ := he
  refine lv_aload_n hx hb h0 rfl ha ?_
  exact W.objInit hx hb hown (hts _ hlk) (hts _ hin) (hts _ hco) rfl (hsz.trans hml.symm) rfl h hRf (by simpa using hRl) kk
end STB
