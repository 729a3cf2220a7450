/-! the start: the world at the law's entry -/
theorem inst_all : ∀ c, c < 12 → ∀ r, vwCl[c]? = some r → ∃ n, (∀ w ∈ u_ws r.1 r.2.1 r.2.2, w ∈ WALL) ∧ Cond.instantiable r.1 n ∈ WALL :=
  (f_s (f_s (f_s (f_s (f_s (f_s (f_s (f_s (f_s (f_s (f_s (f_s f_0 (fun r h => by cases h; exact ⟨6, cl_0.2.1, in_place 201 (by decide +kernel) rfl⟩)) (fun r h => by cases h; exact ⟨5, cl_1.2.1, in_place 326 (by decide +kernel) rfl⟩)) (fun r h => by cases h; exact ⟨6, cl_2.2.1, in_place 94 (by decide +kernel) rfl⟩)) (fun r h => by cases h; exact ⟨10, cl_3.2.1, in_place 414 (by decide +kernel) rfl⟩)) (fun r h => by cases h; exact ⟨8, cl_4.2.1, in_place 227 (by decide +kernel) rfl⟩)) (fun r h => by cases h; exact ⟨9, cl_5.2.1, in_place 258 (by decide +kernel) rfl⟩)) (fun r h => by cases h; exact ⟨17, cl_6.2.1, in_place 354 (by decide +kernel) rfl⟩)) (fun r h => by cases h; exact ⟨4, cl_7.2.1, in_place 177 (by decide +kernel) rfl⟩)) (fun r h => by cases h; exact ⟨4, cl_8.2.1, in_place 233 (by decide +kernel) rfl⟩)) (fun r h => by cases h; exact ⟨6, cl_9.2.1, in_place 103 (by decide +kernel) rfl⟩)) (fun r h => by cases h; exact ⟨9, cl_10.2.1, in_place 86 (by decide +kernel) rfl⟩)) (fun r h => by cases h; exact ⟨70, cl_11.2.1, in_place 926 (by decide +kernel) rfl⟩))
def stTm (i : Nat) : Term := .string "StoreRealm$Tokens" (stTab.getD i (0, "")).1
def stOne (i : Nat) : List Cond := [.exactly (stTm i) "java/lang/String", .eq (.field (stTm i) "java/lang/String" "coder" "B") (.int 0), .arrayOf (.field (stTm i) "java/lang/String" "value" "[B") .byte, .eq (.length (.field (stTm i) "java/lang/String" "value" "[B")) (.int (Int32.ofNat (stLen.getD i 0)))]
theorem st_ones : ∀ i, i < 15 → ∀ w ∈ stOne i, w ∈ flatC (Jvm.Cond.and given_1 narrow_1) := by decide +kernel
theorem st_els : ∀ i, i < 15 → ∀ j, j < stLen.getD i 0 → Cond.eq (.elem (.field (stTm i) "java/lang/String" "value" "[B") (.int (Int32.ofNat j))) (.int ((stByt.getD i []).getD j 0)) ∈ flatC (Jvm.Cond.and given_1 narrow_1) := by decide +kernel
theorem st_nes : ∀ i, i < 15 → ∀ j, j < 15 → i < j → Cond.not (Cond.eq (stTm i) (stTm j)) ∈ flatC (Jvm.Cond.and given_1 narrow_1) := by decide +kernel
theorem st_lens : ∀ i, i < 15 → stLen.getD i 0 < 2 ^ 31 := by decide +kernel
theorem st_refs : ∀ i, i < 15 → Cond.stringRef "StoreRealm$Tokens" (stTab.getD i (0, "")).1 (stTab.getD i (0, "")).2 ∈ lw_tbl := by decide +kernel
theorem nall_in : ∀ q ∈ NALL, Cond.methodLinkNest q.1 q.2.1 q.2.2.1 q.2.2.2 ∈ lw_tbl := by decide +kernel
theorem cs_in : Cond.laysStatic "java/lang/String" "COMPACT_STRINGS" "Z" ∈ lw_tbl ∧ Cond.initialized "java/lang/String" ∈ lw_tbl ∧ Cond.laysStatic "jdk/internal/util/Preconditions" "SIOOBE_FORMATTER" "Ljava/util/function/BiFunction;" ∈ lw_tbl ∧ Cond.initialized "jdk/internal/util/Preconditions" ∈ lw_tbl ∧ Cond.arrayOver (.object "StoreRealm$Town") ∈ lw_tbl ∧ Cond.arrayOver (.array .int) ∈ lw_tbl := by decide +kernel
theorem cs_in2 : Cond.eq (.static "java/lang/String" "COMPACT_STRINGS" "Z") (.int 1) ∈ flatC (Jvm.Cond.and given_1 narrow_1) ∧ Cond.isRef (.static "jdk/internal/util/Preconditions" "SIOOBE_FORMATTER" "Ljava/util/function/BiFunction;") ∈ flatC (Jvm.Cond.and given_1 narrow_1) := by decide +kernel
theorem world0 {s : State} {args : Array Value} (hts : ∀ w ∈ lw_tbl, w.before args s = true) (hg : (Jvm.Cond.and given_1 narrow_1).before args s = true) :
    ∃ E : EE, KK E s s.heap ∧ KB E s ∧ HE E s.heap.size ∧ Inj E ∧ ∀ q, Reg E q → s.heap.size ≤ q := by
  have hW : ∀ w ∈ WALL, w.before args s = true := fun w hw => hts w (List.mem_filter.mp hw).1
  have hf := flat_of_before _ hg
  have h1 : ∀ c : Nat, ∃ q : ClassId × (Nat → Nat), ∀ r : vw_C, vwCl[c]? = some r → u_Kn s r.1 r.2.1 r.2.2 q.1 q.2 := by
    intro c
    cases hr : vwCl[c]? with
    | none => exact ⟨(0, fun _ => 0), fun r h => by cases h⟩
    | some r =>
      have hc : c < 12 := (List.getElem?_eq_some_iff.mp hr).1
      obtain ⟨n, a1, a2⟩ := inst_all c hc r hr
      obtain ⟨cC, iS, hK⟩ := u_known hW a1 (hW _ a2)
      exact ⟨(cC, iS), fun r' h => by cases h; exact hK⟩
  obtain ⟨G, hG⟩ := Classical.axiomOfChoice h1
  have prim : ∀ ty : FieldType, Cond.arrayClass ty ∈ WALL → ∃ cA : ClassId, ArrOfT s cA ty ∧ s.vm.findClass ("[" ++ ty.toString) = some cA := by
    intro ty hw
    obtain ⟨cA, kA, comp, g1, g2, g3⟩ := Cond.arrayClass_spec (hW _ hw)
    exact ⟨cA, fun n z => ⟨fun k h => (by cases h), kA, g2, comp, g3⟩, g1⟩
  have h2 : ∀ t : Nat, ∃ cA : ClassId, t < 5 → ArrOfT s cA (sh_el t) ∧ s.vm.findClass ("[" ++ (sh_el t).toString) = some cA := by
    intro t
    by_cases ht : t < 5
    · have : ∀ t, t < 5 → ∃ cA : ClassId, ArrOfT s cA (sh_el t) ∧ s.vm.findClass ("[" ++ (sh_el t).toString) = some cA := by
        refine f_s (f_s (f_s (f_s (f_s f_0 (prim _ ac_0)) (prim _ ac_1)) (prim _ ac_2)) ?_) ?_
        · obtain ⟨comp, cA, kA, q1, q2, q3, q4, q5⟩ := Cond.arrayOver_spec (hts _ cs_in.2.2.2.2.1)
          exact ⟨cA, fun n z => ⟨fun k h => (by cases h), kA, q3, comp, q4⟩, q5⟩
        · obtain ⟨comp, cA, kA, q1, q2, q3, q4, q5⟩ := arrayOverA_spec (hts _ cs_in.2.2.2.2.2)
          exact ⟨cA, fun n z => ⟨fun k h => (by cases h), kA, q3, comp, q4⟩, q5⟩
      obtain ⟨cA, h⟩ := this t ht
      exact ⟨cA, fun _ => h⟩
    · exact ⟨0, fun h => absurd h ht⟩
  obtain ⟨TT, hT⟩ := Classical.axiomOfChoice h2
  have hlow : ∀ a : Nat, a < s.heap.size → ¬ (fun q => s.heap.size ≤ q) a := fun a h1 h2 => by
    have : s.heap.size ≤ a := h2
    omega
  obtain ⟨adK, adV, hS, hev⟩ := vk_Sof (args := args) (s := s) (N := 15) (tm := stTm) (len := stLen) (byt := stByt) (A := fun q => s.heap.size ≤ q) st_lens
    (fun i hi => hf _ (st_ones i hi _ (by simp [stOne]))) (fun i hi => hf _ (st_ones i hi _ (by simp [stOne]))) (fun i hi => hf _ (st_ones i hi _ (by simp [stOne]))) (fun i hi => hf _ (st_ones i hi _ (by simp [stOne])))
    (fun i hi j hj => hf _ (st_els i hi j hj)) (fun i j hi hj hne => by
      rcases Nat.lt_or_ge i j with z | z
      · exact Or.inl (hf _ (st_nes i hi j hj z))
      · exact Or.inr (hf _ (st_nes j hj i hi (by omega)))) hlow
  let E : EE := ((fun c => (G c).1, fun c => (G c).2), TT, fun k i => if k < 105 then s.heap.size + off k i else if k = 105 then adK i else adV i)
  have hR : ∀ q, Reg E q → s.heap.size ≤ q := by
    rintro q ⟨k, i, hk, hi, rfl⟩
    have hk' : k < 105 := hk
    show s.heap.size ≤ if k < 105 then _ else _
    rw [if_pos hk']
    exact Nat.le_add_right _ _
  have hN : ∀ q ∈ NALL, va_Nw (.methodLinkNest q.1 q.2.1 q.2.2.1 q.2.2.2) s := fun q hq => va_Nw.of rfl (hts _ (nall_in q hq))
  refine ⟨E, ⟨fun c r hr => hG c r hr, fun t ht => (hT t ht).1, hN, ?_, ?_, ?_, ?_⟩, ⟨fun c r hr => hG c r hr, fun t ht => (hT t ht).1, hN, fun t ht => (hT t ht).2, va_AO.of (hts _ cs_in.2.2.2.2.1), hts _ cs_in.2.2.2.2.2⟩, ?_, ?_, hR⟩
  · exact hS.narrow hR
  · exact (va_Zof (hts _ cs_in.1) (hts _ cs_in.2.1) (va_eqi (hf _ cs_in2.1)) hlow).narrow hR
  · exact (va_Zqof (hts _ cs_in.2.2.1) (hts _ cs_in.2.2.2.1) (hf _ cs_in2.2) hlow).narrow hR
  · intro i q hq
    have hi : i < 15 := (List.getElem?_eq_some_iff.mp hq).1
    have e1 : stTab.getD i (0, "") = q := by rw [List.getD_eq_getElem?_getD, hq]; rfl
    have a1 := hts _ (st_refs i hi)
    have a2 := hev i hi
    unfold stTm at a2
    rw [e1] at a1 a2
    exact vk_R.of a1 a2
  · intro j hj
    obtain ⟨a1, a2, a3⟩ := off_ok j hj
    show (if okd j < 105 then _ else _) = _
    rw [if_pos a1, a3]
  · intro k i k' i' hk hi hk' hi' h
    have b1 : k < 105 := hk
    have b2 : k' < 105 := hk'
    have h' : (if k < 105 then s.heap.size + off k i else if k = 105 then adK i else adV i) = (if k' < 105 then s.heap.size + off k' i' else if k' = 105 then adK i' else adV i') := h
    rw [if_pos b1, if_pos b2] at h'
    have h3 : off k i = off k' i' := by omega
    obtain ⟨a1, a2, -⟩ := ok_off k b1 i hi
    obtain ⟨a3, a4, -⟩ := ok_off k' b2 i' hi'
    rw [h3] at a1 a2
    exact ⟨a1.symm.trans a3, a2.symm.trans a4⟩
theorem rep0 {E : EE} {H : Heap} (h : ∀ j, j < 164 → RC E j H) : Rep E hs0 H := by
  intro k i hk hi
  obtain ⟨a1, a2, a3⟩ := ok_off k hk i hi
  have := h _ a3
  unfold RC at this
  rw [a1, a2] at this
  exact this
