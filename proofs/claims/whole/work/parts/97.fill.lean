/-! the start: Arrays.fill on an int array -/
theorem lv_pk {lr : Array Slot} {nL : Nat} {lv lv' : List (Nat × Value)} (ks : List Nat) (h : ks.filterMap (fun k => lv[k]?) = lv') (hL : lv_has lr nL lv) : lv_has lr nL lv' := by
  subst h
  refine ⟨hL.1, hL.2.1, fun q hq => ?_⟩
  obtain ⟨k, -, hk⟩ := List.mem_filterMap.mp hq
  exact hL.2.2 q (List.mem_of_getElem? hk)
section STF
variable {p : Program} {l : Launch} {e : Env} {R : Room} {s : State} {m : MethodId} {args : Array Value} {below : List Frame} {meth : Method} {c : Code} {H H0 : Heap} {locs : List Loc} {cells slots cells' slots' : Nat} {Z : State → Prop} {E : EE} {B0 : Nat} {own : String} {cc : ByteArray} {nL : Nat} {lr : Array Slot} {pc : Nat} {rest : List Value} {ci o N : Nat} {r : vw_C} {f : Nat → Value} {D : PD}
def QF (a : Nat) (cI : ClassId) (n : Nat) (v : Int32) : Array Value → State → Outcome → State → Prop := fun _ st oc t => oc = .returned none ∧ t.heap.size = st.heap.size ∧ t.heap[a]? = some (arrV cI n (fun _ => .int v)) ∧ ∀ q : Nat, q ≠ a → t.heap[q]? = st.heap[q]?
theorem fill_met {a n : Nat} {cI : ClassId} {v : Int32} {g : Nat → Value} (hn : n < 2 ^ 31 - 1) : Met l yJ7_fill_53178 (Cond.code yJ7_fill_53178 cJ7_fill_53178 4 none :: WALL) (rmC 1 0 0) (va_Pc [.ref a, .int v] (fun U => U.heap[a]? = some (arrV cI n g) ∧ ArrOfT U cI .int)) (QF a cI n v) 0 0 (fun q => q = a) := by
  refine Met.ofW (cc := cJ7_fill_53178) (maxL := 4) (ret := none) (by decide +kernel) rfl ?_
  intro p e s m args below meth c s₁ B hml hv
  obtain ⟨rfl, hA, hT⟩ := hv
  have hl := lv_entry [.ref a, .int v] (n := 4) (show 2 ≤ 4 by decide)
  rw [lg_entry_eq]
  have hx := B.exec
  have hb := B.bytes
  have hret := B.returns
  have hlocks := B.notSynchronized
  have loop : ∀ (k i : Nat), i + k = n → ∀ (H : Heap) (locs : List Loc) (lr : Array Slot), lv_has lr 4 [(3, .int (nI n)), (2, .int (nI i)), (0, .ref a), (1, .int v)] → H.size = s.heap.size → H[a]? = some (arrV cI n (fun j => if j < i then .int v else g j)) → (∀ q : Nat, q ≠ a → H[q]? = s.heap[q]?) → (∀ q ∈ locs, q.base = a) →
      W p l e (headSpec (Cond.code yJ7_fill_53178 cJ7_fill_53178 4 none :: WALL) (rmC 1 0 0)).room s m ([Value.ref a, Value.int v] : List Value).toArray below meth c H locs 0 0 (MQ below (QF a cI n v) ([Value.ref a, Value.int v] : List Value).toArray s 0 0 (fun q => q = a)) (F0 m 5 lr []) := by
    intro k
    induction k with
    | zero =>
      intro i hi H locs lr hL hsz hH hq hlo
      refine lv_iload_n hx hb dJ7_fill_53178_5 rfl (lv_at hL 1 rfl) ?_
      refine lv_iload_n hx hb dJ7_fill_53178_6 rfl (lv_at hL 0 rfl) ?_
      refine lv_icmp_ge hx hb dJ7_fill_53178_7 (tgt := 20) rfl (fun _ => ?_) (fun z => absurd (by rw [show i = n by omega]; exact Int32.le_refl _) z)
      refine W.vret hx hb hret (fun t ht hW => ⟨rfl, by rw [ht]; exact hsz, ?_, fun q h => by rw [ht]; exact hq q h⟩) hlo dJ7_fill_53178_20
      rw [ht, hH]
      exact congrArg some (arrV_ext fun j hj => if_pos (by omega))
    | succ k ih =>
      intro i hi H locs lr hL hsz hH hq hlo
      have hcl : (nI i).toNatClampNeg = i := nI_clamp (by omega)
      refine lv_iload_n hx hb dJ7_fill_53178_5 rfl (lv_at hL 1 rfl) ?_
      refine lv_iload_n hx hb dJ7_fill_53178_6 rfl (lv_at hL 0 rfl) ?_
      refine lv_icmp_ge hx hb dJ7_fill_53178_7 (tgt := 20) rfl (fun z => absurd z (fun z => by have := (nI_leI (by omega) (by omega)).mp z; omega)) (fun _ => ?_)
      refine lv_aload_n hx hb dJ7_fill_53178_10 rfl (lv_at hL 2 rfl) ?_
      refine lv_iload_n hx hb dJ7_fill_53178_11 rfl (lv_at hL 1 rfl) ?_
      refine lv_iload_n hx hb dJ7_fill_53178_12 rfl (lv_at hL 3 rfl) ?_
      refine W.iast hx hb hH (hT _ _) (fun z => by cases z) (by rw [arrV_size]; exact nI_in (by omega) (by omega)) rfl rfl dJ7_fill_53178_13 (fun H' e1 e2 e3 => ?_)
      rw [arrV_store, hcl] at e1
      refine lv_iinc (k := 1) hx hb dJ7_fill_53178_14 hL rfl (v := nI (i + 1)) (by rw [show nI (i + 1) = nI i + 1 from (nI_succ i)]; rfl) (by decide) rfl (fun lr2 hL2 => ?_)
      refine lv_goto hx hb dJ7_fill_53178_17 (tgt := 5) rfl ?_
      refine ih (i + 1) (by omega) H' _ lr2 (lv_pk [1, 0, 2, 3] rfl hL2) (by rw [e2]; exact hsz) ?_ (fun q h => by rw [e3 q h]; exact hq q h) ?_
      · rw [e1]
        refine congrArg some (arrV_ext fun j hj => ?_)
        unfold updV
        by_cases q1 : j = i
        · subst q1; simp
        · by_cases q2 : j < i
          · simp [q1, q2, Nat.lt_succ_of_lt q2]
          · simp [q1, q2, show ¬ j < i + 1 by omega]
      · intro q hq
        rcases List.mem_append.mp hq with z | z
        · exact hlo q z
        · rw [List.mem_singleton.mp z]
  refine lv_iconst hx hb dJ7_fill_53178_0 (v := 0) rfl ?_
  refine lv_istore_n hx hb dJ7_fill_53178_1 rfl hl (by decide) rfl (fun lr1 hL1 => ?_)
  refine lv_aload_n hx hb dJ7_fill_53178_2 rfl (lv_at hL1 1 rfl) ?_
  refine W.alen (n := nI n) hx hb hA (hT _ _) (by rw [arrV_size]; rfl) rfl rfl dJ7_fill_53178_3 ?_
  refine lv_istore_n hx hb dJ7_fill_53178_4 rfl hL1 (by decide) rfl (fun lr2 hL2 => ?_)
  exact loop n 0 (by omega) s.heap [] lr2 hL2 rfl (by rw [hA]; exact congrArg some (arrV_ext fun j _ => by simp)) (fun _ _ => rfl) (fun q hq => by cases hq)
/-- the call of it, on a waiting array -/
theorem C_fill {idx j n : Nat} {g : Nat → Value} {v : Int32} (he : CE E B0 own cc nL p s m args meth c) (hC : CI E B0 ci r o N f D H0 H) (hl : LO B0 locs) (hN : N ≤ 164) (hj : o < j) (hjN : j < N) (hd : D j = some (0, n, g)) (hn : n ≤ 1000) (hm : MLS own idx mJ7_fill_53178 2) (hm1 : Cond.methodLink own idx yJ7_fill_53178 ∈ WALL) (h : decode cc pc = .ok (.invokestatic idx, 3)) (hlr : lr.size = nL) (hrest : (rest.map fun v => v.category).sum ≤ 8)
    (hRf : 2 ≤ R.frames) (hRl : 128 ≤ R.locals) (hc : cells ≤ R.cells) (hs : slots ≤ R.slots)
    (kk : ∀ (H' : Heap) (locs' : List Loc), CI E B0 ci r o N f (updD D j (some (0, n, fun _ => .int v))) H0 H' → LO B0 locs' → W p l e R s m args below meth c H' locs' cells slots Z (F0 m (pc + 3) lr rest)) : W p l e R s m args below meth c H locs cells slots Z (F0 m pc lr (.int v :: .ref (B0 + j) :: rest)) := by
  obtain ⟨hx1, hb, hml, hret, hown, hts, hlocks, hnm, hK, hE⟩ := he
  obtain ⟨c1, c2, c3, c4, c5⟩ := hC
  obtain ⟨hm0, hst, -⟩ := hm
  have hA := (c4 j hj hjN).at hd
  have hT := hK.2.1 0 (by decide)
  obtain ⟨b1, b2, b3, b4, b5⟩ := hm0.baseC (d := 1) (mc := 0) (ms := 0) (R := R) hts hRf (by omega)
  have hpre : PreS s H (va_Pc [.ref (B0 + j), .int v] (fun U => U.heap[B0 + j]? = some (arrV (E.2.1 0) n g) ∧ ArrOfT U (E.2.1 0) .int)) [.ref (B0 + j), .int v] := ⟨fun a U g mk h => ⟨h.1, h.2.1, arrOfT_moved (Vm.Alike.refl _) h.2.2⟩, fun U hU hW => ⟨rfl, by rw [hU]; exact hA, arrOfT_moved hW.alike hT⟩⟩
  have hrun : va_Run p l e R s m args below meth c H locs cells slots 0 0 (F0 m pc lr (.int v :: .ref (B0 + j) :: rest)) rest (QF (B0 + j) (E.2.1 0) n v ([.ref (B0 + j), .int v] : List Value).toArray) (fun q => q = B0 + j) :=
    va_runS (Ts := WALL) (bytes := cJ7_fill_53178) (maxL := 4) (ret := none) (As := [.ref (B0 + j), .int v]) ⟨hx1, hb, hml, hown, hts⟩ (fill_met (by omega)) ⟨⟨b1.1, b1.2.1, b1.2.2.1, b1.2.2.2.1, b1.2.2.2.2.1, b1.2.2.2.2.2, b2, b3, b4, b5, hts _ hm1⟩, hts _ hst⟩ hpre rfl rfl hlr rfl (lv_room hrest) h ⟨hc, hs⟩
  intro T hT2 X
  obtain ⟨v2, st₀, t, T', L, g0, X', hL, e1, e2, ⟨hv, q1, q2, q3⟩, st⟩ := hrun T hT2 X
  cases hv
  replace q3 : ∀ q : Nat, q ≠ B0 + j → T'.heap[q]? = H[q]? := fun q hq => by rw [e1, q3 q hq, g0]
  obtain ⟨t2, a1, z1⟩ := kk T'.heap (locs ++ L) ⟨by rw [e1, q1, g0]; exact c1, c2, c3.kept (q3 _ (by omega)), fun q h1 h2 => by
      by_cases eq : q = j
      · subst eq
        unfold GD
        rw [updD_eq]
        show T'.heap[B0 + q]? = _
        rw [e1]
        exact q2
      · exact ((c4 q h1 h2).kept hE (by omega) (q3 _ (by omega))).of (updD_ne eq), fun q hq => by rw [q3 q (by omega)]; exact c5 q hq⟩ (hl.snoc fun q hq => by rw [hL q hq]; exact Nat.le_add_right _ _) T' rfl X'
  exact ⟨t2, st t2 a1, z1⟩
end STF
