/-! an array of int arrays, made at one stroke (two dimensions): first the outer cell, then each inner one, put into its place -/
section MUL
variable {p : Program} {l : Launch} {e : Env} {R : Room} {s : State} {m : MethodId} {args : Array Value} {below : List Frame} {meth : Method} {c : Code} {H : Heap} {locs : List Loc} {cells slots : Nat} {Z : State → Prop}
theorem mul_new {U : State} {f : JFrame} {cA comp : ClassId} {k : Class} {ty : FieldType} {N : Nat} {v : Value} {Q : Addr → Jvm.Pre} {Ec : Jvm.CtlPost} {d : Bool} {acts : List Action} (X : Stand p l e R s m args below meth c U locs cells slots)
    (hk : U.vm.classes[cA]? = some k) (hkind : k.kind = .array comp ty) (hv : v = defaultValue ty) (hbytes : N * componentBytes ty ≤ 536870912) (hN : N ≤ 100000) (hcells : cells + 1 ≤ R.cells) (hslots : slots + N ≤ R.slots)
    (h : Q U.heap.size d acts ((U.pushCell { cls := cA, slots := Array.replicate N v, vm := .none }).setTop f)) : Jvm.Sem.wp (Jvm.newArray cA N v) Q Ec e d acts (U.setTop f) := by
  subst hv
  have hfit : ∀ i w, (Array.replicate N (defaultValue ty))[i]? = some w → U.fitsSlot cA .none i w = true := by
    intro i w hw
    simp only [Array.getElem?_replicate] at hw
    split at hw
    · cases hw; simp [State.fitsSlot, State.slotType?, hk, hkind, fits_default]
    · cases hw
  have hdef : allocActs (Array.replicate N (defaultValue ty)) U.heap.size acts = acts := by
    have hall : ((Array.replicate N (defaultValue ty)).all (·.isDefault)) = true := by
      rw [Array.all_replicate]; split <;> simp [isDefault_default]
    unfold allocActs; rw [if_pos hall]
  have hlimit : ¬ N > e.platform.arrayLengthLimit := by rw [Launch.admits_arrayLengthLimit X.admits]; omega
  have hheap : ¬ N * componentBytes ty > e.platform.maxHeapBytes := by rw [Launch.admits_maxHeapBytes X.admits]; omega
  obtain ⟨hr1, hr2⟩ := X.roomAbove hcells hslots
  have hmx : ¬ N > e.platform.maxSlots := by omega
  simp only [Jvm.newArray, Jvm.arrayFits, Jvm.Sem.wp_bind', Jvm.W.ask, Jvm.W.ite, hlimit, if_false, Jvm.Sem.wp_pure', Jvm.W.theClass, State.vm_setTop, hk, hkind, hheap, Jvm.W.alloc, Jvm.W.stop]
  simp only [Option.some.injEq, exists_eq_left', hkind, Jvm.Sem.wp_bind', Jvm.W.ask, Jvm.W.ite, hheap, hmx, if_false, Jvm.Sem.wp_pure', Jvm.W.alloc, State.heap_setTop, State.slotsUsed_setTop, State.fitsSlot_setTop, Array.size_replicate, hdef, State.pushCell_setTop]
  exact ⟨by omega, hr2, hfit, h⟩
theorem arrV_ext {cI : ClassId} {N : Nat} {f g : Nat → Value} (h : ∀ i, i < N → f i = g i) : arrV cI N f = arrV cI N g := by
  have h1 : (fun j : Fin N => f j.val) = (fun j : Fin N => g j.val) := funext fun j => h j.val j.isLt
  unfold arrV
  rw [h1]
theorem mul_in {U : State} {f : JFrame} {cI comp : ClassId} {kI : Class} {k : Nat} {kk : Int32} {Q : Addr → Jvm.Pre} {Ec : Jvm.CtlPost} {d : Bool} {acts : List Action} (X : Stand p l e R s m args below meth c U locs cells slots)
    (hkI : U.vm.classes[cI]? = some kI) (hI : kI.kind = .array comp .int) (hkk : kk.toNatClampNeg = k) (hk0 : ¬ kk < 0) (hk : k ≤ 10000) (hcells : cells + 1 ≤ R.cells) (hslots : slots + k ≤ R.slots)
    (h : Q U.heap.size d acts ((U.pushCell { cls := cI, slots := Array.replicate k (defaultValue .int), vm := .none }).setTop f)) : Jvm.Sem.wp (Jvm.Op.multianewarray.make cI [kk]) Q Ec e d acts (U.setTop f) := by
  simp only [Jvm.Op.multianewarray.make, Jvm.Sem.wp_bind', Jvm.W.ite, hk0, if_false, Jvm.Sem.wp_pure', Jvm.W.theClass, State.vm_setTop, hkI, Option.some.injEq, exists_eq_left', hI, hkk]
  exact mul_new X hkI hI rfl (by show k * 4 ≤ _; omega) (by omega) hcells hslots h
/-- the inner cells, one after the other -/
theorem mul_loop {f : JFrame} {cA cI comp : ClassId} {kA kI : Class} {vm : Vm} {n k h : Nat} {H : Heap} (hkA : vm.classes[cA]? = some kA) (hA : kA.kind = .array cI (.array .int)) (hkI : vm.classes[cI]? = some kI) (hI : kI.kind = .array comp .int) {kk : Int32} (hkk : kk.toNatClampNeg = k) (hk0 : ¬ kk < 0) (hk : k ≤ 10000) :
    ∀ (r j : Nat) (U : State) (locs : List Loc) (cells slots : Nat), Stand p l e R s m args below meth c U locs cells slots → U.vm = vm → j + r = n → U.heap.size = h + 1 + j → U.heap[h]? = some (arrV cA n (fun i => if i < j then .ref (h + 1 + i) else .null)) → (∀ i, i < j → U.heap[h + 1 + i]? = some (arrV cI k (fun _ => .int 0))) → (∀ q, q < h → U.heap[q]? = H[q]?) → cells + r ≤ R.cells → slots + r * k ≤ R.slots →
    ∃ (U' : State) (L : List Loc), Stand p l e R s m args below meth c U' (locs ++ L) (cells + r) (slots + r * k) ∧ (∀ q ∈ L, q.base = h) ∧ U'.heap.size = h + 1 + n ∧ U'.heap[h]? = some (arrV cA n (fun i => .ref (h + 1 + i))) ∧ (∀ i, i < n → U'.heap[h + 1 + i]? = some (arrV cI k (fun _ => .int 0))) ∧ (∀ q, q < h → U'.heap[q]? = H[q]?) ∧
      ∀ (Q : PUnit → Jvm.Pre) (Ec : Jvm.CtlPost) (d : Bool) (acts : List Action), (∀ d' acts', Q ⟨⟩ d' acts' (U'.setTop f)) → Jvm.Sem.wp (forIn (List.range' j r 1) PUnit.unit (fun i _ => do
        Jvm.writeLoc h i (.ref (← Jvm.Op.multianewarray.make cI [kk]))
        Pure.pure (ForInStep.yield PUnit.unit))) Q Ec e d acts (U.setTop f)
  | 0, j, U, locs, cells, slots, X, hvm, hj, hsz, ho, hin, hold, hc, hs => by
    refine ⟨U, [], by simpa using X, fun q hq => (by cases hq), by omega, ?_, fun i hi => hin i (by omega), hold, fun Q Ec d acts hq => ?_⟩
    · rw [ho]
      exact congrArg some (arrV_ext fun i hi => if_pos (by omega))
    · simpa using hq d acts
  | r + 1, j, U, locs, cells, slots, X, hvm, hj, hsz, ho, hin, hold, hc, hs => by
    subst hvm
    have hd0 : arrV cI k (fun _ => .int 0) = { cls := cI, slots := Array.replicate k (defaultValue .int), vm := .none } := (arrV_new cI k (.int 0)).symm
    have hs1 : slots + k ≤ R.slots := by rw [Nat.succ_mul] at hs; omega
    have X1 := X.pushed { cls := cI, slots := Array.replicate k (defaultValue .int), vm := .none }
    have hh1 : (U.pushCell { cls := cI, slots := Array.replicate k (defaultValue .int), vm := .none }).heap = U.heap.push (arrV cI k (fun _ => .int 0)) := by rw [hd0]; rfl
    have ho1 : (U.pushCell { cls := cI, slots := Array.replicate k (defaultValue .int), vm := .none }).heap[h]? = some (arrV cA n (fun i => if i < j then .ref (h + 1 + i) else .null)) := by
      rw [hh1, Array.getElem?_push, if_neg (by omega)]; exact ho
    have X2 := X1.stored ho1 j (.ref (h + 1 + j))
    have hkA2 := hkA
    generalize hV : (U.pushCell { cls := cI, slots := Array.replicate k (defaultValue .int), vm := .none }) = V at X1 hh1 ho1 X2
    have hVvm : V.vm = U.vm := by rw [← hV]; rfl
    rw [arrV_store] at X2
    have hlt : h < V.heap.size := by rw [hh1, Array.size_push]; omega
    obtain ⟨U', L, h1, h2, h3, h4, h5, h6, h7⟩ := mul_loop (f := f) (n := n) (h := h) (H := H) hkA hA hkI hI hkk hk0 hk r (j + 1) (V.setCell h (arrV cA n (updV (fun i => if i < j then .ref (h + 1 + i) else .null) j (.ref (h + 1 + j))))) _ _ _ X2 hVvm (by omega) (by rw [size_setCell, hh1, Array.size_push]; omega)
      (by rw [heapAt_setCell_self _ hlt]; exact congrArg some (arrV_ext fun i hi => by
            unfold updV
            by_cases e1 : i = j
            · subst e1; simp
            · by_cases e2 : i < j
              · simp [e1, e2, Nat.lt_succ_of_lt e2]
              · simp [e1, e2, show ¬ i < j + 1 by omega]))
      (fun i hi => by
        rw [heapAt_setCell_ne _ (show h ≠ h + 1 + i by omega), hh1, Array.getElem?_push]
        by_cases e1 : h + 1 + i = U.heap.size
        · rw [if_pos e1]
        · rw [if_neg e1]; exact hin i (by omega))
      (fun q hq => by rw [heapAt_setCell_ne _ (show h ≠ q by omega), hh1, Array.getElem?_push, if_neg (by omega)]; exact hold q hq)
      (by omega) (by rw [Array.size_replicate]; rw [Nat.succ_mul] at hs; omega)
    refine ⟨U', [⟨h, j⟩] ++ L, ?_, ?_, h3, h4, h5, h6, fun Q Ec d acts hq => ?_⟩
    · rw [Array.size_replicate] at h1
      have e1 : slots + k + r * k = slots + (r + 1) * k := by rw [Nat.succ_mul]; omega
      have e2 : cells + 1 + r = cells + (r + 1) := by omega
      rw [e1, e2, List.append_assoc] at h1
      exact h1
    · intro q hq
      rcases List.mem_append.mp hq with z | z
      · rw [List.mem_singleton.mp z]
      · exact h2 q z
    · rw [List.range'_succ, List.forIn_cons]
      simp only [Jvm.Sem.wp_bind']
      refine mul_in X hkI hI hkk hk0 hk (by omega) hs1 ?_
      rw [hV]
      simp only [Jvm.writeLoc]
      rw [hsz]
      refine ⟨_, ho1, (fun z => by cases z), ?_, ?_, ?_⟩
      · show j < _
        rw [arrV_size]; omega
      · show V.fitsSlot cA .none j (.ref (h + 1 + j)) = true
        rw [← hVvm] at hkA
        simp [State.fitsSlot, State.slotType?, hkA, hA, fits]
      · show Jvm.Sem.wp _ _ _ _ _ _ ((V.setCell h ((arrV cA n (fun i => if i < j then .ref (h + 1 + i) else .null)).setSlot j (.ref (h + 1 + j)))).setTop f)
        rw [arrV_store]
        exact h7 Q Ec _ _ hq
theorem W.multi {cc : ByteArray} (hexec : p.tables.exec = Jvm.exec) (hb : c.code = cc) {own : String} {index : Nat} (hown : s.vm.findClass own = some m.cls) (hclink : (Cond.classLink own index "[[I").before args s = true) (hover : (Cond.arrayOver (.array .int)).before args s = true) {cI comp : ClassId} {kI : Class} (hfI : s.vm.findClass "[I" = some cI) (hkI : s.vm.classes[cI]? = some kI) (hI : kI.kind = .array comp .int)
    {pc : Nat} {lr : Array Slot} {rest : List Value} (hdg : decode cc pc = .ok (.multianewarray index 2, 4)) {a b : Int32} {n k : Nat} (ha : a.toNatClampNeg = n) (hb2 : b.toNatClampNeg = k) (ha0 : ¬ a < 0) (hb0 : ¬ b < 0) (hn0 : 0 < n) (hn : n ≤ 1000) (hk : k ≤ 1000) (hcells : cells + (1 + n) ≤ R.cells) (hslots : slots + (n + n * k) ≤ R.slots) {h : Nat} (hh : H.size = h)
    (kk : ∀ (H' : Heap) (L : List Loc) (cA : ClassId), s.vm.findClass "[[I" = some cA → (∀ q ∈ L, q.base = h) → H'.size = h + 1 + n → H'[h]? = some (arrV cA n (fun i => .ref (h + 1 + i))) → (∀ i, i < n → H'[h + 1 + i]? = some (arrV cI k (fun _ => .int 0))) → (∀ q, q < h → H'[q]? = H[q]?) →
      W p l e R s m args below meth c H' (locs ++ L) (cells + (1 + n)) (slots + (n + n * k)) Z (F0 m (pc + 4) lr (.ref h :: rest))) : W p l e R s m args below meth c H locs cells slots Z (F0 m pc lr (.int b :: .int a :: rest)) := by
  intro T hT X
  subst hT; subst hb
  have hpl : e.platform.magicAccessors = ({} : Platform).magicAccessors := by rw [X.admits.platform]
  obtain ⟨comp', cA, kA, hcomp, hidx, hkA, hkindA, hnameA⟩ := arrayOverA_spec hover
  cases hfI.symm.trans hcomp
  obtain ⟨cc', hfcc, hcl⟩ := Cond.classLink_spec hown hclink e.platform hpl
  cases hnameA.symm.trans hfcc
  obtain ⟨hg₁, hwarm₁, hready₁⟩ := State.classEntry (e := e) X.warmed hcl
  generalize T.vm.noted m.cls index (.cls cA) = vm₁ at hg₁ hwarm₁ hready₁
  have hal : s.vm.Alike vm₁ := hwarm₁.alike
  obtain ⟨kI₁, hkI₁, heI⟩ := hal.2.2 _ _ hkI
  obtain ⟨kA₁, hkA₁, heA⟩ := hal.2.2 _ _ hkA
  have hkindA₁ : kA₁.kind = .array cI (.array .int) := by rw [heA]; exact hkindA
  have hkindI₁ : kI₁.kind = .array comp .int := by rw [heI]; exact hI
  have X₁ := X.noted hwarm₁
  have X₂ := X₁.pushed { cls := cA, slots := Array.replicate n .null, vm := .none }
  have hh2 : ((T.setVm vm₁).pushCell { cls := cA, slots := Array.replicate n .null, vm := .none }).heap = T.heap.push (arrV cA n (fun _ => .null)) := by rw [← arrV_new]; rfl
  obtain ⟨U', L, h1, h2, h3, h4, h5, h6, h7⟩ := mul_loop (f := { F0 m pc lr (.int b :: .int a :: rest) with stack := rest }) (n := n) (h := h) (H := T.heap) (vm := vm₁) hkA₁ hkindA₁ hkI₁ hkindI₁ hb2 hb0 (by omega) n 0 _ _ _ _ X₂ rfl (by omega) (by rw [hh2, Array.size_push]; omega)
    (by rw [hh2, Array.getElem?_push, if_pos hh.symm]; exact congrArg some (arrV_ext fun i hi => by simp))
    (fun i hi => by omega)
    (fun q hq => by rw [hh2, Array.getElem?_push, if_neg (by omega)])
    (by omega) (by rw [Array.size_replicate]; omega)
  have e1 : cells + 1 + n = cells + (1 + n) := by omega
  have e2 : slots + (Array.replicate n Value.null).size + n * k = slots + (n + n * k) := by rw [Array.size_replicate]; omega
  rw [e1, e2] at h1
  obtain ⟨t', a1, b1⟩ := kk U'.heap L cA hnameA h2 h3 h4 h5 h6 U' rfl h1
  refine ⟨t', ?_, b1⟩
  jvm_step X.here [hexec, hdg]
  have cold : ∀ {Q : Unit → Jvm.Pre} {E : Jvm.CtlPost} {d : Bool} {acts : List Action}, Jvm.Sem.wp (Jvm.Op.multianewarray.sem index 2) Q E e d acts (T.setTop (F0 m pc lr (.int b :: .int a :: rest))) ↔ Jvm.Sem.wp (Jvm.Op.multianewarray.sem index 2) Q E e d acts ((T.setVm vm₁).setTop (F0 m pc lr (.int b :: .int a :: rest))) := by
    intro Q E d acts
    simp only [Jvm.Op.multianewarray.sem, Jvm.Sem.wp_bind']
    exact Jvm.W.resolveClassAt_transfer (s := T.setTop (F0 m pc lr (.int b :: .int a :: rest))) (State.method?_setTop (F0 m pc lr (.int b :: .int a :: rest)) X.here.top) hg₁ hready₁
  refine cold.mpr ?_
  simp only [Jvm.Op.multianewarray.sem, Jvm.Sem.wp_bind']
  refine (Jvm.W.resolveClassAt_ready (State.method?_setTop (F0 m pc lr (.int b :: .int a :: rest)) (s := T.setVm vm₁) X.here.top) hready₁).mpr ?_
  simp only [Jvm.Sem.wp_bind']
  refine (Jvm.Op.popN_top (args := [.int a, .int b]) (rest := rest) (s := T.setVm vm₁) X.here.top rfl).mpr ?_
  simp only [List.mapM_cons, List.mapM_nil, Jvm.Sem.wp_bind', Jvm.Sem.wp_pure']
  rw [Jvm.Op.multianewarray.make]
  simp only [Jvm.Sem.wp_bind', Jvm.Sem.wp_pure', Jvm.W.ite, ha0, if_false, Jvm.W.theClass, State.vm_setTop]
  refine ⟨kA₁, hkA₁, ?_⟩
  rw [hkindA₁]
  simp only [Jvm.Sem.wp_bind']
  rw [ha]
  refine mul_new X₁ hkA₁ hkindA₁ rfl (by show n * 4 ≤ _; omega) (by omega) (by omega) (by omega) ?_
  have ha1 : ¬ (a == 0) = true := fun z => by
    have : a = 0 := by simpa using z
    subst this
    have : (0 : Int32).toNatClampNeg = 0 := by decide
    omega
  rw [if_neg ha1]
  simp only [Jvm.Sem.wp_bind']
  rw [Std.Legacy.Range.forIn_eq_forIn_range']
  have e3 : [:n].size = n := by simp [Std.Legacy.Range.size]
  have e4 : (T.setVm vm₁).heap.size = h := hh
  rw [e3, e4]
  refine h7 _ _ _ _ (fun d' acts' => ?_)
  simp only [Jvm.Sem.wp_pure', Jvm.Sem.wp_bind', Jvm.W.mark, Jvm.W.pushRef, State.topJava?_setTop' _ h1.here.top, Option.some.injEq, exists_eq_left', State.setTop_setTop]
  intro acts
  rw [afterInstr_ok]
  exact a1
end MUL
