abbrev AV : Type := Int32 ⊕ Int64 ⊕ (Nat × Nat)
abbrev HS : Type := (Nat → Nat → Nat → Int32) × Int64
abbrev vI (x : Int32) : AV := .inl x
abbrev vL (x : Int64) : AV := .inr (.inl x)
abbrev vR (k i : Nat) : AV := .inr (.inr (k, i))
abbrev EE : Type := va_G × (Nat → ClassId) × (Nat → Nat → Nat)
def tv (E : EE) : AV → Value
  | .inl x => .int x
  | .inr (.inl x) => .long x
  | .inr (.inr q) => .ref (E.2.2 q.1 q.2)
def gv (σ : HS) (k i s : Nat) : AV := match sh_rf k i s with
  | some q => .inr (.inr q)
  | none => match sh_dy k s with
    | some k' => .inr (.inr (k', (σ.1 k i s).toNatClampNeg))
    | none => cond (sh_lg k s) (.inr (.inl σ.2)) (.inl (σ.1 k i s))
def up (σ : HS) (k i s : Nat) (x : Int32) : HS := (fun k' i' s' => if k' = k ∧ i' = i ∧ s' = s then x else σ.1 k' i' s', σ.2)
def intS (k i s : Nat) : Bool := (sh_rf k i s).isNone && (sh_dy k s).isNone && !sh_lg k s
theorem gv_int {σ : HS} {k i s : Nat} (h : intS k i s = true) : gv σ k i s = vI (σ.1 k i s) := by
  simp only [intS, Bool.and_eq_true, Option.isNone_iff_eq_none, Bool.not_eq_true'] at h
  obtain ⟨⟨h1, h2⟩, h3⟩ := h
  simp [gv, h1, h2, h3]
def Reg (E : EE) (q : Nat) : Prop := ∃ k i : Nat, k < sh_NK ∧ i < sh_cnt k ∧ q = E.2.2 k i
def Inj (E : EE) : Prop := ∀ k i k' i' : Nat, k < sh_NK → i < sh_cnt k → k' < sh_NK → i' < sh_cnt k' → E.2.2 k i = E.2.2 k' i' → k = k' ∧ i = i'
def RepC (E : EE) (σ : HS) (k i : Nat) (H : Heap) : Prop :=
  (∀ (ci : Nat) (r : vw_C), sh_obj k = some ci → vwCl[ci]? = some r → t_OB (E.2.2 k i) (E.1.1 ci) r.2.2 (E.1.2 ci) H (fun s => tv E (gv σ k i s))) ∧
  (∀ t n : Nat, sh_arr k = some (t, n) → H[E.2.2 k i]? = some (arrV (E.2.1 t) n (fun s => tv E (gv σ k i s))))
def Rep (E : EE) (σ : HS) (H : Heap) : Prop := ∀ k i : Nat, k < sh_NK → i < sh_cnt k → RepC E σ k i H
def stTab : List (Nat × String) := [(62, "maize"), (68, "cloth"), (70, "meat"), (72, "when"), (74, "move"), (76, "from"), (78, "to"), (80, "or"), (82, "and"), (84, "not"), (86, "month"), (88, "people"), (90, "stock"), (92, "old"), (94, "room")]
def stLen : List Nat := [5, 5, 4, 4, 4, 4, 2, 2, 3, 3, 5, 6, 5, 3, 4]
def stByt : List (List Int32) := [[109, 97, 105, 122, 101], [99, 108, 111, 116, 104], [109, 101, 97, 116], [119, 104, 101, 110], [109, 111, 118, 101], [102, 114, 111, 109], [116, 111], [111, 114], [97, 110, 100], [110, 111, 116], [109, 111, 110, 116, 104], [112, 101, 111, 112, 108, 101], [115, 116, 111, 99, 107], [111, 108, 100], [114, 111, 111, 109]]
def KS (E : EE) (U : State) (H : Heap) : Prop := vk_S 15 stLen stByt (E.2.2 kStr) (E.2.2 kStrV) (Reg E) U H ∧ va_Z "java/lang/String" "COMPACT_STRINGS" "Z" (.int 1) (Reg E) U H ∧ va_Zq "jdk/internal/util/Preconditions" "SIOOBE_FORMATTER" "Ljava/util/function/BiFunction;" (Reg E) U H ∧ ∀ (i : Nat) (q : Nat × String), stTab[i]? = some q → vk_R "StoreRealm$Tokens" q.1 q.2 (E.2.2 kStr i) U
def KK (E : EE) (U : State) (H : Heap) : Prop := (∀ (c : Nat) (q : vw_C), vwCl[c]? = some q → u_Kn U q.1 q.2.1 q.2.2 (E.1.1 c) (E.1.2 c)) ∧ (∀ t : Nat, t < 5 → ArrOfT U (E.2.1 t) (sh_el t)) ∧ (∀ q ∈ NALL, va_Nw (.methodLinkNest q.1 q.2.1 q.2.2.1 q.2.2.2) U) ∧ KS E U H
theorem KK.go {E : EE} {s U : State} {H0 H : Heap} (h : KK E s H0) (hW : s.WarmedH U.vm) (hk : ∀ a : Nat, a < H0.size → ¬ Reg E a → H[a]? = H0[a]?) : KK E U H := by
  obtain ⟨h1, h2, h3, h4, h5, h7, h6⟩ := h
  have ha := hW.alike
  exact ⟨fun c q hq => u_Kn_moved ha (h1 c q hq), fun t ht => arrOfT_moved ha (h2 t ht), fun q hq => va_Nw.warmM hW (h3 q hq), (h4.moved ha).kept hk, (h5.moved ha).kept hk, h7.elim (fun z => Or.inl ((z.moved ha).kept hk)) (fun z => Or.inr (z.elim fun t z => ⟨t, (z.moved ha).kept hk⟩)), fun i q hq => vk_R.warm hW (h6 i q hq)⟩
theorem KK.same {E : EE} {s U : State} {H : Heap} (h : KK E s H) (hv : U.vm = s.vm) : KK E U H := by
  obtain ⟨h1, h2, h3, h4, h5, h7, h6⟩ := h
  have ha : s.vm.Alike U.vm := by rw [hv]; exact Vm.Alike.refl _
  exact ⟨fun c q hq => u_Kn_moved ha (h1 c q hq), fun t ht => arrOfT_moved ha (h2 t ht), fun q hq => va_Nw.same rfl hv.symm (h3 q hq), h4.moved ha, h5.moved ha, h7.elim (fun z => Or.inl (z.moved ha)) (fun z => Or.inr (z.elim fun t z => ⟨t, z.moved ha⟩)), fun i q hq => vk_R.same hv (h6 i q hq)⟩
def rmD (d : Nat) : Room := { frames := d, cells := 0, slots := 0, locals := d * 64 }
def LV (E : EE) (lr : Array Slot) (nL : Nat) (ls : List (Option AV)) : Prop := lr.size = nL ∧ lv_wf lr ∧ ∀ (i : Nat) (v : AV), ls[i]? = some (some v) → lr[i]? = some (.val (tv E v))
def QC (E : EE) (Q : Option AV → HS → Prop) : Array Value → State → Outcome → State → Prop := fun _ st o t => (∃ (rv : Option AV) (σ : HS), o = .returned (rv.map (tv E)) ∧ Q rv σ ∧ Rep E σ t.heap ∧ KK E t t.heap) ∧ va_F (Reg E) st t
def ENV (E : EE) (M : MI) (p : Program) (s : State) (m : MethodId) (args : Array Value) (meth : Method) (c : Code) : Prop :=
  p.tables.exec = Jvm.exec ∧ c.code = M.2.1 ∧ c.maxLocals = M.2.2.1 ∧ meth.sig.returnType = M.2.2.2 ∧ s.vm.findClass M.1.cls = some m.cls ∧ (∀ w ∈ WALL, w.before args s = true) ∧ meth.locks = false ∧ Inj E ∧ KK E s s.heap
def EV (d : Nat) (M : MI) (pc : Nat) (ls : List (Option AV)) (st : List AV) (σ : HS) (Q : Option AV → HS → Prop) : Prop :=
  ∀ (E : EE) (p : Program) (l : Launch) (e : Env) (s : State) (m : MethodId) (args : Array Value) (below : List Frame) (meth : Method) (c : Code) (H : Heap) (locs : List Loc) (lr : Array Slot),
    ENV E M p s m args meth c → Rep E σ H → va_S (Reg E) s.heap H locs → LV E lr M.2.2.1 ls →
    W p l e (rmD d) s m args below meth c H locs 0 0 (MQ below (QC E Q) args s 0 0 (Reg E)) (F0 m pc lr (st.map (tv E)))
def catA : AV → Nat
  | .inr (.inl _) => 2
  | _ => 1
def entS (As : List AV) : List (Option AV) := As.flatMap (fun v => if catA v = 2 then [some v, none] else [some v])
def entL (M : MI) (As : List AV) : List (Option AV) := entS As ++ List.replicate (M.2.2.1 - (entS As).length) none
def MT (d : Nat) (M : MI) (As : List AV) (σ : HS) (Q : Option AV → HS → Prop) : Prop := EV d M 0 (entL M As) [] σ Q
theorem tv_cat (E : EE) (v : AV) : (tv E v).category = catA v := by
  rcases v with x | x | x <;> rfl
theorem tv_cats (E : EE) (st : List AV) : ((st.map (tv E)).map fun v => v.category) = st.map catA := by
  rw [List.map_map]
  exact List.map_congr_left (fun v _ => tv_cat E v)
theorem entS_sl (E : EE) (As : List AV) : lg_sl (As.map (tv E)) = (entS As).map (fun o => match o with | some v => Slot.val (tv E v) | none => Slot.second) := by
  induction As with
  | nil => rfl
  | cons v t ih =>
    have e1 : lg_sl ((v :: t).map (tv E)) = (if (tv E v).category = 2 then [.val (tv E v), .second] else [.val (tv E v)]) ++ lg_sl (t.map (tv E)) := by simp [lg_sl]
    have e2 : entS (v :: t) = (if catA v = 2 then [some v, none] else [some v]) ++ entS t := by simp [entS]
    rw [e1, e2, List.map_append, ih, tv_cat]
    congr 1
    by_cases h : catA v = 2
    · rw [if_pos h, if_pos h]; rfl
    · rw [if_neg h, if_neg h]; rfl
theorem MT.met {d : Nat} {M : MI} {As : List AV} {σ : HS} {Q : Option AV → HS → Prop} (h : MT d M As σ Q) (hpl : plainName M.1.cls = true) (hln : (entS As).length ≤ M.2.2.1) (E : EE) (hI : Inj E) (l : Launch) :
    Met l M.1 (Cond.code M.1 M.2.1 M.2.2.1 M.2.2.2 :: WALL) (rmD d) (va_Pc (As.map (tv E)) (fun U => Rep E σ U.heap ∧ KK E U U.heap)) (QC E Q) 0 0 (Reg E) := by
  refine Met.ofW (cc := M.2.1) (maxL := M.2.2.1) (ret := M.2.2.2) hpl rfl ?_
  intro p e s m args below meth c s₁ B hml hv
  obtain ⟨rfl, hR, hK⟩ := hv
  have hts := atoms_spec (ws := Cond.code M.1 M.2.1 M.2.2.1 M.2.2.2 :: WALL) B.pre
  have hsl : (lg_sl (As.map (tv E))).length = (entS As).length := by rw [entS_sl, List.length_map]
  have hl := lv_entry (As.map (tv E)) (n := M.2.2.1) (by rw [hsl]; exact hln)
  rw [lg_entry_eq]
  refine h E p l e s m _ below meth c s.heap [] _ ⟨B.exec, B.bytes, hml, B.returns, findClass_of_methodNamed B.named, fun w hw => hts w (List.mem_cons_of_mem _ hw), B.notSynchronized, hI, hK⟩ hR va_S.rf ⟨hl.1, hl.2.1, fun i v hi => ?_⟩
  unfold entL at hi
  by_cases hlt : i < (entS As).length
  · rw [List.getElem?_append_left hlt] at hi
    rw [entS_sl, List.getElem?_toArray, List.getElem?_append_left (by rw [List.length_map]; exact hlt), List.getElem?_map, hi]
    rfl
  · rw [List.getElem?_append_right (by omega)] at hi
    have hm := List.mem_of_getElem? hi
    rw [List.mem_replicate] at hm
    exact absurd hm.2 (by simp)
theorem LV.weak {E : EE} {lr : Array Slot} {n : Nat} {ls ls' : List (Option AV)} (h : LV E lr n ls) (hw : ∀ (i : Nat) (v : AV), ls'[i]? = some (some v) → ls[i]? = some (some v)) : LV E lr n ls' := ⟨h.1, h.2.1, fun i v hv => h.2.2 i v (hw i v hv)⟩
def maskL : List Bool → List (Option AV) → List (Option AV)
  | b :: bs, x :: xs => (cond b x none) :: maskL bs xs
  | _, _ => []
theorem maskL_get : ∀ (bs : List Bool) (ls : List (Option AV)) (i : Nat) (v : AV), (maskL bs ls)[i]? = some (some v) → ls[i]? = some (some v)
  | [], ls, i, v, h => by simp [maskL] at h
  | b :: bs, [], i, v, h => by simp [maskL] at h
  | b :: bs, x :: xs, 0, v, h => by
    cases b
    · simp [maskL] at h
    · simpa [maskL] using h
  | b :: bs, x :: xs, i + 1, v, h => by
    simp only [maskL, List.getElem?_cons_succ] at h ⊢
    exact maskL_get bs xs i v h
theorem EV.mask {d : Nat} {M : MI} {pc : Nat} {ls : List (Option AV)} {st : List AV} {σ : HS} {Q : Option AV → HS → Prop} (bs : List Bool) (k : EV d M pc (maskL bs ls) st σ Q) : EV d M pc ls st σ Q :=
  fun E p l e s m args below meth c H locs lr he hR hS hL => k E p l e s m args below meth c H locs lr he hR hS (hL.weak (maskL_get bs ls))
theorem W.mono {p : Program} {l : Launch} {e : Env} {R : Room} {s : State} {m : MethodId} {args : Array Value} {below : List Frame} {meth : Method} {c : Code} {H : Heap} {locs : List Loc} {cells slots : Nat} {Q Q' : State → Prop} {g : JFrame} (h : W p l e R s m args below meth c H locs cells slots Q g) (hq : ∀ t, Q t → Q' t) : W p l e R s m args below meth c H locs cells slots Q' g := by
  intro T hT X
  obtain ⟨t, a, b⟩ := h T hT X
  exact ⟨t, a, hq t b⟩
theorem EV.mono {d : Nat} {M : MI} {pc : Nat} {ls : List (Option AV)} {st : List AV} {σ : HS} {Q Q' : Option AV → HS → Prop} (h : EV d M pc ls st σ Q) (hq : ∀ r σ', Q r σ' → Q' r σ') : EV d M pc ls st σ Q' := by
  intro E p l e s m args below meth c H locs lr he hR hS hL
  refine W.mono (h E p l e s m args below meth c H locs lr he hR hS hL) ?_
  rintro t ⟨o, h1, h2, ⟨⟨rv, σ', h3, h4, h5⟩, h6⟩, h7⟩
  exact ⟨o, h1, h2, ⟨⟨rv, σ', h3, hq _ _ h4, h5⟩, h6⟩, h7⟩
theorem MT.mono {d : Nat} {M : MI} {As : List AV} {σ : HS} {Q Q' : Option AV → HS → Prop} (h : MT d M As σ Q) (hq : ∀ r σ', Q r σ' → Q' r σ') : MT d M As σ Q' := EV.mono h hq
def bI (P : Prop) [Decidable P] : Int32 := if P then 1 else 0
theorem bI_t {P : Prop} [Decidable P] (h : P) : bI P = 1 := if_pos h
theorem bI_f {P : Prop} [Decidable P] (h : ¬ P) : bI P = 0 := if_neg h
theorem bI_nar {P : Prop} [Decidable P] : narrow .boolean (.int (bI P)) = .int (bI P) := by
  by_cases h : P
  · rw [bI_t h]; rfl
  · rw [bI_f h]; rfl
theorem bI_1 : (1 : Int32) = bI True := rfl
theorem bI_0 : (0 : Int32) = bI False := rfl
section EVR
variable {d : Nat} {M : MI} {pc : Nat} {ls : List (Option AV)} {st : List AV} {σ : HS} {Q : Option AV → HS → Prop}
theorem EV.iconst {n : Int} {v : Int32} (h : decode M.2.1 pc = .ok (.iconst n, 1)) (hv : Int32.ofInt n = v) (k : EV d M (pc + 1) ls (vI v :: st) σ Q) : EV d M pc ls (st) σ Q :=
  fun E p l e s m args below meth c H locs lr he hR hS hL => lv_iconst he.1 he.2.1 h hv (k E p l e s m args below meth c H locs lr he hR hS hL)
theorem EV.bipush {n : Int} {v : Int32} (h : decode M.2.1 pc = .ok (.bipush n, 2)) (hv : (Int8.ofInt n).toInt32 = v) (k : EV d M (pc + 2) ls (vI v :: st) σ Q) : EV d M pc ls (st) σ Q :=
  fun E p l e s m args below meth c H locs lr he hR hS hL => lv_bipush he.1 he.2.1 h hv (k E p l e s m args below meth c H locs lr he hR hS hL)
theorem EV.sipush {n : Int} {v : Int32} (h : decode M.2.1 pc = .ok (.sipush n, 3)) (hv : (Int16.ofInt n).toInt32 = v) (k : EV d M (pc + 3) ls (vI v :: st) σ Q) : EV d M pc ls (st) σ Q :=
  fun E p l e s m args below meth c H locs lr he hR hS hL => lv_sipush he.1 he.2.1 h hv (k E p l e s m args below meth c H locs lr he hR hS hL)
theorem EV.lconst {n : Fin 2} {v : Int64} (h : decode M.2.1 pc = .ok (.lconst n, 1)) (hv : Int64.ofNat (n : Nat) = v) (k : EV d M (pc + 1) ls (vL v :: st) σ Q) : EV d M pc ls (st) σ Q :=
  fun E p l e s m args below meth c H locs lr he hR hS hL => lv_lconst he.1 he.2.1 h hv (k E p l e s m args below meth c H locs lr he hR hS hL)
theorem EV.iload_n {j : Fin 4} {x : Int32} (h : decode M.2.1 pc = .ok (.iload_n j, 1)) (hl : ls[(j : Nat)]? = some (some (vI x))) (k : EV d M (pc + 1) ls (vI x :: st) σ Q) : EV d M pc ls (st) σ Q :=
  fun E p l e s m args below meth c H locs lr he hR hS hL => lv_iload_n he.1 he.2.1 h rfl (hL.2.2 _ _ hl) (k E p l e s m args below meth c H locs lr he hR hS hL)
theorem EV.iload {j : Nat} {x : Int32} (h : decode M.2.1 pc = .ok (.iload j, 2)) (hl : ls[j]? = some (some (vI x))) (k : EV d M (pc + 2) ls (vI x :: st) σ Q) : EV d M pc ls (st) σ Q :=
  fun E p l e s m args below meth c H locs lr he hR hS hL => lv_iload he.1 he.2.1 h (hL.2.2 _ _ hl) (k E p l e s m args below meth c H locs lr he hR hS hL)
theorem EV.lload_n {j : Fin 4} {x : Int64} (h : decode M.2.1 pc = .ok (.lload_n j, 1)) (hl : ls[(j : Nat)]? = some (some (vL x))) (k : EV d M (pc + 1) ls (vL x :: st) σ Q) : EV d M pc ls (st) σ Q :=
  fun E p l e s m args below meth c H locs lr he hR hS hL => lv_lload_n he.1 he.2.1 h rfl (hL.2.2 _ _ hl) (k E p l e s m args below meth c H locs lr he hR hS hL)
theorem EV.aload_n {j : Fin 4} {a b : Nat} (h : decode M.2.1 pc = .ok (.aload_n j, 1)) (hl : ls[(j : Nat)]? = some (some (vR a b))) (k : EV d M (pc + 1) ls (vR a b :: st) σ Q) : EV d M pc ls (st) σ Q :=
  fun E p l e s m args below meth c H locs lr he hR hS hL => lv_aload_n he.1 he.2.1 h rfl (hL.2.2 _ _ hl) (k E p l e s m args below meth c H locs lr he hR hS hL)
theorem EV.aload {j : Nat} {a b : Nat} (h : decode M.2.1 pc = .ok (.aload j, 2)) (hl : ls[j]? = some (some (vR a b))) (k : EV d M (pc + 2) ls (vR a b :: st) σ Q) : EV d M pc ls (st) σ Q :=
  fun E p l e s m args below meth c H locs lr he hR hS hL => lv_aload he.1 he.2.1 h (hL.2.2 _ _ hl) (k E p l e s m args below meth c H locs lr he hR hS hL)
theorem EV.iadd {x y : Int32} (h : decode M.2.1 pc = .ok (.iadd, 1)) (k : EV d M (pc + 1) ls (vI (x + y) :: st) σ Q) : EV d M pc ls (vI y :: vI x :: st) σ Q :=
  fun E p l e s m args below meth c H locs lr he hR hS hL => lv_iadd he.1 he.2.1 h (k E p l e s m args below meth c H locs lr he hR hS hL)
theorem EV.isub {x y : Int32} (h : decode M.2.1 pc = .ok (.isub, 1)) (k : EV d M (pc + 1) ls (vI (x - y) :: st) σ Q) : EV d M pc ls (vI y :: vI x :: st) σ Q :=
  fun E p l e s m args below meth c H locs lr he hR hS hL => lv_isub he.1 he.2.1 h (k E p l e s m args below meth c H locs lr he hR hS hL)
theorem EV.imul {x y : Int32} (h : decode M.2.1 pc = .ok (.imul, 1)) (k : EV d M (pc + 1) ls (vI (x * y) :: st) σ Q) : EV d M pc ls (vI y :: vI x :: st) σ Q :=
  fun E p l e s m args below meth c H locs lr he hR hS hL => lv_imul he.1 he.2.1 h (k E p l e s m args below meth c H locs lr he hR hS hL)
theorem EV.iand {x y : Int32} (h : decode M.2.1 pc = .ok (.iand, 1)) (k : EV d M (pc + 1) ls (vI (x &&& y) :: st) σ Q) : EV d M pc ls (vI y :: vI x :: st) σ Q :=
  fun E p l e s m args below meth c H locs lr he hR hS hL => lv_iand he.1 he.2.1 h (k E p l e s m args below meth c H locs lr he hR hS hL)
theorem EV.ior {x y : Int32} (h : decode M.2.1 pc = .ok (.ior, 1)) (k : EV d M (pc + 1) ls (vI (x ||| y) :: st) σ Q) : EV d M pc ls (vI y :: vI x :: st) σ Q :=
  fun E p l e s m args below meth c H locs lr he hR hS hL => lv_ior he.1 he.2.1 h (k E p l e s m args below meth c H locs lr he hR hS hL)
theorem EV.ixor {x y : Int32} (h : decode M.2.1 pc = .ok (.ixor, 1)) (k : EV d M (pc + 1) ls (vI (x ^^^ y) :: st) σ Q) : EV d M pc ls (vI y :: vI x :: st) σ Q :=
  fun E p l e s m args below meth c H locs lr he hR hS hL => lv_ixor he.1 he.2.1 h (k E p l e s m args below meth c H locs lr he hR hS hL)
theorem EV.ishl {x y : Int32} (h : decode M.2.1 pc = .ok (.ishl, 1)) (k : EV d M (pc + 1) ls (vI (x <<< (y &&& 31)) :: st) σ Q) : EV d M pc ls (vI y :: vI x :: st) σ Q :=
  fun E p l e s m args below meth c H locs lr he hR hS hL => lv_ishl he.1 he.2.1 h (k E p l e s m args below meth c H locs lr he hR hS hL)
theorem EV.ishr {x y : Int32} (h : decode M.2.1 pc = .ok (.ishr, 1)) (k : EV d M (pc + 1) ls (vI (x >>> (y &&& 31)) :: st) σ Q) : EV d M pc ls (vI y :: vI x :: st) σ Q :=
  fun E p l e s m args below meth c H locs lr he hR hS hL => lv_ishr he.1 he.2.1 h (k E p l e s m args below meth c H locs lr he hR hS hL)
theorem EV.ineg {x : Int32} (h : decode M.2.1 pc = .ok (.ineg, 1)) (k : EV d M (pc + 1) ls (vI (-x) :: st) σ Q) : EV d M pc ls (vI x :: st) σ Q :=
  fun E p l e s m args below meth c H locs lr he hR hS hL => lv_ineg he.1 he.2.1 h (k E p l e s m args below meth c H locs lr he hR hS hL)
theorem EV.idiv {x y : Int32} (h : decode M.2.1 pc = .ok (.idiv, 1)) (hne : ¬ y = 0) (k : EV d M (pc + 1) ls (vI (x / y) :: st) σ Q) : EV d M pc ls (vI y :: vI x :: st) σ Q :=
  fun E p l e s m args below meth c H locs lr he hR hS hL => lv_idiv he.1 he.2.1 h hne (k E p l e s m args below meth c H locs lr he hR hS hL)
theorem EV.irem {x y : Int32} (h : decode M.2.1 pc = .ok (.irem, 1)) (hne : ¬ y = 0) (k : EV d M (pc + 1) ls (vI (x - x / y * y) :: st) σ Q) : EV d M pc ls (vI y :: vI x :: st) σ Q :=
  fun E p l e s m args below meth c H locs lr he hR hS hL => lv_irem he.1 he.2.1 h hne (k E p l e s m args below meth c H locs lr he hR hS hL)
theorem EV.lor {x y : Int64} (h : decode M.2.1 pc = .ok (.lor, 1)) (k : EV d M (pc + 1) ls (vL (x ||| y) :: st) σ Q) : EV d M pc ls (vL y :: vL x :: st) σ Q :=
  fun E p l e s m args below meth c H locs lr he hR hS hL => lv_lor he.1 he.2.1 h (k E p l e s m args below meth c H locs lr he hR hS hL)
theorem EV.ladd {x y : Int64} (h : decode M.2.1 pc = .ok (.ladd, 1)) (k : EV d M (pc + 1) ls (vL (x + y) :: st) σ Q) : EV d M pc ls (vL y :: vL x :: st) σ Q :=
  fun E p l e s m args below meth c H locs lr he hR hS hL => lv_ladd he.1 he.2.1 h (k E p l e s m args below meth c H locs lr he hR hS hL)
theorem EV.lshl {x v : Int64} {y : Int32} (h : decode M.2.1 pc = .ok (.lshl, 1)) (hv : x <<< (y.toInt64 &&& 63) = v) (k : EV d M (pc + 1) ls (vL v :: st) σ Q) : EV d M pc ls (vI y :: vL x :: st) σ Q :=
  fun E p l e s m args below meth c H locs lr he hR hS hL => lv_lshl he.1 he.2.1 h hv (k E p l e s m args below meth c H locs lr he hR hS hL)
theorem EV.i2l {x : Int32} {v : Int64} (h : decode M.2.1 pc = .ok (.i2l, 1)) (hv : x.toInt64 = v) (k : EV d M (pc + 1) ls (vL v :: st) σ Q) : EV d M pc ls (vI x :: st) σ Q :=
  fun E p l e s m args below meth c H locs lr he hR hS hL => lv_i2l he.1 he.2.1 h hv (k E p l e s m args below meth c H locs lr he hR hS hL)
theorem EV.i2b {x v : Int32} (h : decode M.2.1 pc = .ok (.i2b, 1)) (hv : x.toInt8.toInt32 = v) (k : EV d M (pc + 1) ls (vI v :: st) σ Q) : EV d M pc ls (vI x :: st) σ Q :=
  fun E p l e s m args below meth c H locs lr he hR hS hL => lv_i2b he.1 he.2.1 h hv (k E p l e s m args below meth c H locs lr he hR hS hL)
theorem EV.i2s {x v : Int32} (h : decode M.2.1 pc = .ok (.i2s, 1)) (hv : x.toInt16.toInt32 = v) (k : EV d M (pc + 1) ls (vI v :: st) σ Q) : EV d M pc ls (vI x :: st) σ Q :=
  fun E p l e s m args below meth c H locs lr he hR hS hL => lv_i2s he.1 he.2.1 h hv (k E p l e s m args below meth c H locs lr he hR hS hL)
theorem EV.i2c {x v : Int32} (h : decode M.2.1 pc = .ok (.i2c, 1)) (hv : (x.toUInt32 % 65536).toInt32 = v) (k : EV d M (pc + 1) ls (vI v :: st) σ Q) : EV d M pc ls (vI x :: st) σ Q :=
  fun E p l e s m args below meth c H locs lr he hR hS hL => lv_i2c he.1 he.2.1 h hv (k E p l e s m args below meth c H locs lr he hR hS hL)
theorem EV.lcmp {x y : Int64} (h : decode M.2.1 pc = .ok (.lcmp, 1)) (k : EV d M (pc + 1) ls (vI (lg_cmp x y) :: st) σ Q) : EV d M pc ls (vL y :: vL x :: st) σ Q :=
  fun E p l e s m args below meth c H locs lr he hR hS hL => W.lcmp he.1 he.2.1 h (k E p l e s m args below meth c H locs lr he hR hS hL)
theorem EV.dup {v : AV} (h : decode M.2.1 pc = .ok (.dup, 1)) (hc : catA v = 1) (k : EV d M (pc + 1) ls (v :: v :: st) σ Q) : EV d M pc ls (v :: st) σ Q :=
  fun E p l e s m args below meth c H locs lr he hR hS hL => lv_dup he.1 he.2.1 h ((tv_cat E v).trans hc) (k E p l e s m args below meth c H locs lr he hR hS hL)
theorem EV.pop {v : AV} (h : decode M.2.1 pc = .ok (.pop, 1)) (hc : catA v = 1) (k : EV d M (pc + 1) ls (st) σ Q) : EV d M pc ls (v :: st) σ Q :=
  fun E p l e s m args below meth c H locs lr he hR hS hL => lv_pop he.1 he.2.1 h ((tv_cat E v).trans hc) (k E p l e s m args below meth c H locs lr he hR hS hL)
theorem EV.dup2 {v w : AV} (h : decode M.2.1 pc = .ok (.dup2, 1)) (hc : catA v = 1) (hc2 : catA w = 1) (k : EV d M (pc + 1) ls (v :: w :: v :: w :: st) σ Q) : EV d M pc ls (v :: w :: st) σ Q :=
  fun E p l e s m args below meth c H locs lr he hR hS hL => lv_dup2_11 he.1 he.2.1 h ((tv_cat E v).trans hc) ((tv_cat E w).trans hc2) (k E p l e s m args below meth c H locs lr he hR hS hL)
theorem EV.dup_x1 {v w : AV} (h : decode M.2.1 pc = .ok (.dup_x1, 1)) (hc : catA v = 1) (hc2 : catA w = 1) (k : EV d M (pc + 1) ls (v :: w :: v :: st) σ Q) : EV d M pc ls (v :: w :: st) σ Q :=
  fun E p l e s m args below meth c H locs lr he hR hS hL => lv_dup_x1 he.1 he.2.1 h ((tv_cat E v).trans hc) ((tv_cat E w).trans hc2) (k E p l e s m args below meth c H locs lr he hR hS hL)
theorem EV.if_eq {x : Int32} {off : Int} {tgt : Nat} (h : decode M.2.1 pc = .ok (.ifCond .eq off, 3)) (ht : (pc : Int) + off = (tgt : Int)) (kt : x = 0 → EV d M tgt ls st σ Q) (kf : ¬ x = 0 → EV d M (pc + 3) ls st σ Q) : EV d M pc ls (vI x :: st) σ Q :=
  fun E p l e s m args below meth c H locs lr he hR hS hL => lv_if_eq he.1 he.2.1 h ht (fun q => kt q E p l e s m args below meth c H locs lr he hR hS hL) (fun q => kf q E p l e s m args below meth c H locs lr he hR hS hL)
theorem EV.if_ne {x : Int32} {off : Int} {tgt : Nat} (h : decode M.2.1 pc = .ok (.ifCond .ne off, 3)) (ht : (pc : Int) + off = (tgt : Int)) (kt : ¬ x = 0 → EV d M tgt ls st σ Q) (kf : x = 0 → EV d M (pc + 3) ls st σ Q) : EV d M pc ls (vI x :: st) σ Q :=
  fun E p l e s m args below meth c H locs lr he hR hS hL => lv_if_ne he.1 he.2.1 h ht (fun q => kt q E p l e s m args below meth c H locs lr he hR hS hL) (fun q => kf q E p l e s m args below meth c H locs lr he hR hS hL)
theorem EV.if_lt {x : Int32} {off : Int} {tgt : Nat} (h : decode M.2.1 pc = .ok (.ifCond .lt off, 3)) (ht : (pc : Int) + off = (tgt : Int)) (kt : x < 0 → EV d M tgt ls st σ Q) (kf : ¬ x < 0 → EV d M (pc + 3) ls st σ Q) : EV d M pc ls (vI x :: st) σ Q :=
  fun E p l e s m args below meth c H locs lr he hR hS hL => lv_if_lt he.1 he.2.1 h ht (fun q => kt q E p l e s m args below meth c H locs lr he hR hS hL) (fun q => kf q E p l e s m args below meth c H locs lr he hR hS hL)
theorem EV.if_ge {x : Int32} {off : Int} {tgt : Nat} (h : decode M.2.1 pc = .ok (.ifCond .ge off, 3)) (ht : (pc : Int) + off = (tgt : Int)) (kt : 0 ≤ x → EV d M tgt ls st σ Q) (kf : ¬ 0 ≤ x → EV d M (pc + 3) ls st σ Q) : EV d M pc ls (vI x :: st) σ Q :=
  fun E p l e s m args below meth c H locs lr he hR hS hL => lv_if_ge he.1 he.2.1 h ht (fun q => kt q E p l e s m args below meth c H locs lr he hR hS hL) (fun q => kf q E p l e s m args below meth c H locs lr he hR hS hL)
theorem EV.if_gt {x : Int32} {off : Int} {tgt : Nat} (h : decode M.2.1 pc = .ok (.ifCond .gt off, 3)) (ht : (pc : Int) + off = (tgt : Int)) (kt : 0 < x → EV d M tgt ls st σ Q) (kf : ¬ 0 < x → EV d M (pc + 3) ls st σ Q) : EV d M pc ls (vI x :: st) σ Q :=
  fun E p l e s m args below meth c H locs lr he hR hS hL => lv_if_gt he.1 he.2.1 h ht (fun q => kt q E p l e s m args below meth c H locs lr he hR hS hL) (fun q => kf q E p l e s m args below meth c H locs lr he hR hS hL)
theorem EV.if_le {x : Int32} {off : Int} {tgt : Nat} (h : decode M.2.1 pc = .ok (.ifCond .le off, 3)) (ht : (pc : Int) + off = (tgt : Int)) (kt : x ≤ 0 → EV d M tgt ls st σ Q) (kf : ¬ x ≤ 0 → EV d M (pc + 3) ls st σ Q) : EV d M pc ls (vI x :: st) σ Q :=
  fun E p l e s m args below meth c H locs lr he hR hS hL => lv_if_le he.1 he.2.1 h ht (fun q => kt q E p l e s m args below meth c H locs lr he hR hS hL) (fun q => kf q E p l e s m args below meth c H locs lr he hR hS hL)
theorem EV.icmp_eq {x y : Int32} {off : Int} {tgt : Nat} (h : decode M.2.1 pc = .ok (.if_icmp .eq off, 3)) (ht : (pc : Int) + off = (tgt : Int)) (kt : x = y → EV d M tgt ls st σ Q) (kf : ¬ x = y → EV d M (pc + 3) ls st σ Q) : EV d M pc ls (vI y :: vI x :: st) σ Q :=
  fun E p l e s m args below meth c H locs lr he hR hS hL => lv_icmp_eq he.1 he.2.1 h ht (fun q => kt q E p l e s m args below meth c H locs lr he hR hS hL) (fun q => kf q E p l e s m args below meth c H locs lr he hR hS hL)
theorem EV.icmp_ne {x y : Int32} {off : Int} {tgt : Nat} (h : decode M.2.1 pc = .ok (.if_icmp .ne off, 3)) (ht : (pc : Int) + off = (tgt : Int)) (kt : ¬ x = y → EV d M tgt ls st σ Q) (kf : x = y → EV d M (pc + 3) ls st σ Q) : EV d M pc ls (vI y :: vI x :: st) σ Q :=
  fun E p l e s m args below meth c H locs lr he hR hS hL => lv_icmp_ne he.1 he.2.1 h ht (fun q => kt q E p l e s m args below meth c H locs lr he hR hS hL) (fun q => kf q E p l e s m args below meth c H locs lr he hR hS hL)
theorem EV.icmp_lt {x y : Int32} {off : Int} {tgt : Nat} (h : decode M.2.1 pc = .ok (.if_icmp .lt off, 3)) (ht : (pc : Int) + off = (tgt : Int)) (kt : x < y → EV d M tgt ls st σ Q) (kf : ¬ x < y → EV d M (pc + 3) ls st σ Q) : EV d M pc ls (vI y :: vI x :: st) σ Q :=
  fun E p l e s m args below meth c H locs lr he hR hS hL => lv_icmp_lt he.1 he.2.1 h ht (fun q => kt q E p l e s m args below meth c H locs lr he hR hS hL) (fun q => kf q E p l e s m args below meth c H locs lr he hR hS hL)
theorem EV.icmp_ge {x y : Int32} {off : Int} {tgt : Nat} (h : decode M.2.1 pc = .ok (.if_icmp .ge off, 3)) (ht : (pc : Int) + off = (tgt : Int)) (kt : y ≤ x → EV d M tgt ls st σ Q) (kf : ¬ y ≤ x → EV d M (pc + 3) ls st σ Q) : EV d M pc ls (vI y :: vI x :: st) σ Q :=
  fun E p l e s m args below meth c H locs lr he hR hS hL => lv_icmp_ge he.1 he.2.1 h ht (fun q => kt q E p l e s m args below meth c H locs lr he hR hS hL) (fun q => kf q E p l e s m args below meth c H locs lr he hR hS hL)
theorem EV.icmp_gt {x y : Int32} {off : Int} {tgt : Nat} (h : decode M.2.1 pc = .ok (.if_icmp .gt off, 3)) (ht : (pc : Int) + off = (tgt : Int)) (kt : y < x → EV d M tgt ls st σ Q) (kf : ¬ y < x → EV d M (pc + 3) ls st σ Q) : EV d M pc ls (vI y :: vI x :: st) σ Q :=
  fun E p l e s m args below meth c H locs lr he hR hS hL => lv_icmp_gt he.1 he.2.1 h ht (fun q => kt q E p l e s m args below meth c H locs lr he hR hS hL) (fun q => kf q E p l e s m args below meth c H locs lr he hR hS hL)
theorem EV.icmp_le {x y : Int32} {off : Int} {tgt : Nat} (h : decode M.2.1 pc = .ok (.if_icmp .le off, 3)) (ht : (pc : Int) + off = (tgt : Int)) (kt : x ≤ y → EV d M tgt ls st σ Q) (kf : ¬ x ≤ y → EV d M (pc + 3) ls st σ Q) : EV d M pc ls (vI y :: vI x :: st) σ Q :=
  fun E p l e s m args below meth c H locs lr he hR hS hL => lv_icmp_le he.1 he.2.1 h ht (fun q => kt q E p l e s m args below meth c H locs lr he hR hS hL) (fun q => kf q E p l e s m args below meth c H locs lr he hR hS hL)
theorem EV.if_eqB {P : Prop} [Decidable P] {off : Int} {tgt : Nat} (h : decode M.2.1 pc = .ok (.ifCond .eq off, 3)) (ht : (pc : Int) + off = (tgt : Int)) (kt : ¬ P → EV d M tgt ls st σ Q) (kf : P → EV d M (pc + 3) ls st σ Q) : EV d M pc ls (vI (bI P) :: st) σ Q :=
  EV.if_eq h ht (fun q => kt (fun hp => by rw [bI_t hp] at q; cases q)) (fun q => kf (Classical.byContradiction fun hp => q (bI_f hp)))
theorem EV.if_neB {P : Prop} [Decidable P] {off : Int} {tgt : Nat} (h : decode M.2.1 pc = .ok (.ifCond .ne off, 3)) (ht : (pc : Int) + off = (tgt : Int)) (kt : P → EV d M tgt ls st σ Q) (kf : ¬ P → EV d M (pc + 3) ls st σ Q) : EV d M pc ls (vI (bI P) :: st) σ Q :=
  EV.if_ne h ht (fun q => kt (Classical.byContradiction fun hp => q (bI_f hp))) (fun q => kf (fun hp => by rw [bI_t hp] at q; cases q))
theorem EV.goto {off : Int} {tgt : Nat} (h : decode M.2.1 pc = .ok (.goto off, 3)) (ht : (pc : Int) + off = (tgt : Int)) (k : EV d M tgt ls st σ Q) : EV d M pc ls st σ Q :=
  fun E p l e s m args below meth c H locs lr he hR hS hL => lv_goto he.1 he.2.1 h ht (k E p l e s m args below meth c H locs lr he hR hS hL)
def noL (ls : List (Option AV)) : Bool := ls.all (fun o => match o with | some v => catA v == 1 | none => true)
def pairsOf (E : EE) (ls : List (Option AV)) : List (Nat × Value) := (List.range ls.length).filterMap (fun i => match ls[i]? with | some (some v) => some (i, tv E v) | _ => none)
theorem pairs_mem {E : EE} {ls : List (Option AV)} {i : Nat} {v : AV} (h : ls[i]? = some (some v)) : (i, tv E v) ∈ pairsOf E ls := by
  refine List.mem_filterMap.mpr ⟨i, List.mem_range.mpr (List.getElem?_eq_some_iff.mp h).1, ?_⟩
  rw [h]
theorem pairs_of {E : EE} {ls : List (Option AV)} {q : Nat × Value} (h : q ∈ pairsOf E ls) : ∃ v, ls[q.1]? = some (some v) ∧ q.2 = tv E v := by
  obtain ⟨i, -, hi⟩ := List.mem_filterMap.mp h
  rcases hc : ls[i]? with _ | (_ | v)
  · rw [hc] at hi; cases hi
  · rw [hc] at hi; cases hi
  · rw [hc] at hi; cases hi; exact ⟨v, hc, rfl⟩
theorem LV.has {E : EE} {lr : Array Slot} {n : Nat} {ls : List (Option AV)} (h : LV E lr n ls) : lv_has lr n (pairsOf E ls) := ⟨h.1, h.2.1, fun q hq => by
  obtain ⟨v, h1, h2⟩ := pairs_of hq
  rw [h2]
  exact h.2.2 _ _ h1⟩
theorem LV.set {E : EE} {lr : Array Slot} {n j : Nat} {ls : List (Option AV)} {v : AV} (hn : noL ls = true) (h : lv_has lr n ((j, tv E v) :: (pairsOf E ls).filter (fun q => !(q.1 == j) && !(q.1 + 1 == j && q.2.category == 2)))) : LV E lr n (ls.set j (some v)) := by
  refine ⟨h.1, h.2.1, fun i w hi => ?_⟩
  by_cases hij : i = j
  · subst hij
    by_cases hlt : i < ls.length
    · rw [List.getElem?_set_self hlt] at hi
      cases hi
      exact h.2.2 (i, tv E v) List.mem_cons_self
    · rw [List.getElem?_eq_none (by rw [List.length_set]; omega)] at hi
      cases hi
  · rw [List.getElem?_set_ne (Ne.symm hij)] at hi
    refine h.2.2 (i, tv E w) (List.mem_cons_of_mem _ (List.mem_filter.mpr ⟨pairs_mem hi, ?_⟩))
    have hc : catA w = 1 := by
      have := List.all_eq_true.mp hn _ (List.mem_of_getElem? hi)
      simpa using this
    simp [tv_cat, hc, hij]
theorem EV.istore_n {j : Fin 4} {x : Int32} (h : decode M.2.1 pc = .ok (.istore_n j, 1)) (hj : (j : Nat) < M.2.2.1) (hn : noL ls = true) (k : EV d M (pc + 1) (ls.set (j : Nat) (some (vI x))) st σ Q) : EV d M pc ls (vI x :: st) σ Q :=
  fun E p l e s m args below meth c H locs lr he hR hS hL => lv_istore_n he.1 he.2.1 h rfl hL.has hj rfl (fun lr2 h2 => k E p l e s m args below meth c H locs lr2 he hR hS (LV.set (v := vI x) hn h2))
theorem EV.istore {j : Nat} {x : Int32} (h : decode M.2.1 pc = .ok (.istore j, 2)) (hj : (j : Nat) < M.2.2.1) (hn : noL ls = true) (k : EV d M (pc + 2) (ls.set (j : Nat) (some (vI x))) st σ Q) : EV d M pc ls (vI x :: st) σ Q :=
  fun E p l e s m args below meth c H locs lr he hR hS hL => lv_istore he.1 he.2.1 h hL.has hj rfl (fun lr2 h2 => k E p l e s m args below meth c H locs lr2 he hR hS (LV.set (v := vI x) hn h2))
theorem EV.astore_n {j : Fin 4} {a b : Nat} (h : decode M.2.1 pc = .ok (.astore_n j, 1)) (hj : (j : Nat) < M.2.2.1) (hn : noL ls = true) (k : EV d M (pc + 1) (ls.set (j : Nat) (some (vR a b))) st σ Q) : EV d M pc ls (vR a b :: st) σ Q :=
  fun E p l e s m args below meth c H locs lr he hR hS hL => lv_astore_n he.1 he.2.1 h rfl hL.has hj rfl (fun lr2 h2 => k E p l e s m args below meth c H locs lr2 he hR hS (LV.set (v := vR a b) hn h2))
theorem EV.astore {j : Nat} {a b : Nat} (h : decode M.2.1 pc = .ok (.astore j, 2)) (hj : (j : Nat) < M.2.2.1) (hn : noL ls = true) (k : EV d M (pc + 2) (ls.set (j : Nat) (some (vR a b))) st σ Q) : EV d M pc ls (vR a b :: st) σ Q :=
  fun E p l e s m args below meth c H locs lr he hR hS hL => lv_astore he.1 he.2.1 h hL.has hj rfl (fun lr2 h2 => k E p l e s m args below meth c H locs lr2 he hR hS (LV.set (v := vR a b) hn h2))
theorem EV.iinc {j : Nat} {n : Int} {x v : Int32} (h : decode M.2.1 pc = .ok (.iinc j n, 3)) (hl : ls[j]? = some (some (vI x))) (hv : x + Int32.ofInt n = v) (hj : j < M.2.2.1) (hn : noL ls = true) (k : EV d M (pc + 3) (ls.set j (some (vI v))) st σ Q) : EV d M pc ls st σ Q := by
  intro E p l e s m args below meth c H locs lr he hR hS hL
  obtain ⟨i, hi⟩ := List.getElem?_of_mem (pairs_mem (E := E) hl)
  exact lv_iinc he.1 he.2.1 h hL.has hi hv hj rfl (fun lr2 h2 => k E p l e s m args below meth c H locs lr2 he hR hS (LV.set (v := vI v) hn h2))
theorem EV.ldc {idx : Nat} {v : Int32} (h : decode M.2.1 pc = .ok (.ldc idx, 2)) (hw : Cond.constant M.1.cls idx v ∈ WALL) (k : EV d M (pc + 2) ls (vI v :: st) σ Q) : EV d M pc ls st σ Q :=
  fun E p l e s m args below meth c H locs lr he hR hS hL => lv_ldc he.1 he.2.1 he.2.2.2.2.1 (he.2.2.2.2.2.1 _ hw) h (k E p l e s m args below meth c H locs lr he hR hS hL)
theorem EV.ldcw {idx : Nat} {v : Int32} (h : decode M.2.1 pc = .ok (.ldc_w idx, 3)) (hw : Cond.constant M.1.cls idx v ∈ WALL) (k : EV d M (pc + 3) ls (vI v :: st) σ Q) : EV d M pc ls st σ Q :=
  fun E p l e s m args below meth c H locs lr he hR hS hL => lv_ldcw he.1 he.2.1 he.2.2.2.2.1 (he.2.2.2.2.2.1 _ hw) h (k E p l e s m args below meth c H locs lr he hR hS hL)
theorem EV.ldc2 {idx : Nat} {v : Int64} (h : decode M.2.1 pc = .ok (.ldc2_w idx, 3)) (hw : Cond.constantLong M.1.cls idx v ∈ WALL) (k : EV d M (pc + 3) ls (vL v :: st) σ Q) : EV d M pc ls st σ Q :=
  fun E p l e s m args below meth c H locs lr he hR hS hL => lv_ldc2 he.1 he.2.1 he.2.2.2.2.1 (he.2.2.2.2.2.1 _ hw) h (k E p l e s m args below meth c H locs lr he hR hS hL)
theorem EV.tsIn {dflt lo hi : Int} {offs : Array Int} {len : Nat} {x : Int32} {off : Int} {tgt : Nat} (h : decode M.2.1 pc = .ok (.tableswitch dflt lo hi offs, len)) (h1 : ¬ x.toInt < lo) (h2 : ¬ hi < x.toInt) (ho : offs[(x.toInt - lo).toNat]? = some off) (ht : (pc : Int) + off = (tgt : Int)) (k : EV d M tgt ls st σ Q) : EV d M pc ls (vI x :: st) σ Q :=
  fun E p l e s m args below meth c H locs lr he hR hS hL => lv_tableIn he.1 he.2.1 h h1 h2 ho ht (k E p l e s m args below meth c H locs lr he hR hS hL)
theorem EV.tsOut {dflt lo hi : Int} {offs : Array Int} {len : Nat} {x : Int32} {tgt : Nat} (h : decode M.2.1 pc = .ok (.tableswitch dflt lo hi offs, len)) (h1 : x.toInt < lo ∨ hi < x.toInt) (ht : (pc : Int) + dflt = (tgt : Int)) (k : EV d M tgt ls st σ Q) : EV d M pc ls (vI x :: st) σ Q :=
  fun E p l e s m args below meth c H locs lr he hR hS hL => lv_tableOut he.1 he.2.1 h h1 ht (k E p l e s m args below meth c H locs lr he hR hS hL)
theorem EV.look {dflt : Int} {ps : Array (Int × Int)} {len : Nat} {x : Int32} {off : Int} {tgt : Nat} (h : decode M.2.1 pc = .ok (.lookupswitch dflt ps, len)) (hp : (ps.toList.zip (ps.toList.drop 1)).all (fun (a, next) => a.1 < next.1) = true) (ho : Op.lookupswitch.offset ps.toList dflt x.toInt = off) (ht : (pc : Int) + off = (tgt : Int)) (k : EV d M tgt ls st σ Q) : EV d M pc ls (vI x :: st) σ Q :=
  fun E p l e s m args below meth c H locs lr he hR hS hL => lv_lookup he.1 he.2.1 h hp ho ht (k E p l e s m args below meth c H locs lr he hR hS hL)
theorem EV.iret {x : Int32} (h : decode M.2.1 pc = .ok (.ireturn, 1)) (hr : M.2.2.2 = some .int) (q : Q (some (vI x)) σ) : EV d M pc ls [vI x] σ Q := by
  intro E p l e s m args below meth c H locs lr he hR hS hL
  obtain ⟨hx, hb, hml, hret, hown, hts, hlocks, hI, hK⟩ := he
  exact W.iret (v := x) hx hb (hret.trans hr) (fun t ht hW => ⟨⟨some (vI x), σ, rfl, q, by rw [ht]; exact hR, hK.go hW (by rw [ht]; exact hS.2.1)⟩, hS.F ht⟩) hS.2.2 h hlocks
theorem EV.zret {x : Int32} {ty : FieldType} (h : decode M.2.1 pc = .ok (.ireturn, 1)) (hr : M.2.2.2 = some ty) (hn : narrow ty (.int x) = .int x) (q : Q (some (vI x)) σ) : EV d M pc ls [vI x] σ Q := by
  intro E p l e s m args below meth c H locs lr he hR hS hL
  obtain ⟨hx, hb, hml, hret, hown, hts, hlocks, hI, hK⟩ := he
  exact W.zret (v := x) hx hb (hret.trans hr) hn (fun t ht hW => ⟨⟨some (vI x), σ, rfl, q, by rw [ht]; exact hR, hK.go hW (by rw [ht]; exact hS.2.1)⟩, hS.F ht⟩) hS.2.2 h hlocks
theorem EV.vret (h : decode M.2.1 pc = .ok (.return_, 1)) (hr : M.2.2.2 = none) (q : Q none σ) : EV d M pc ls [] σ Q := by
  intro E p l e s m args below meth c H locs lr he hR hS hL
  obtain ⟨hx, hb, hml, hret, hown, hts, hlocks, hI, hK⟩ := he
  exact W.vret hx hb (hret.trans hr) (fun t ht hW => ⟨⟨none, σ, rfl, q, by rw [ht]; exact hR, hK.go hW (by rw [ht]; exact hS.2.1)⟩, hS.F ht⟩) hS.2.2 h hlocks
end EVR
