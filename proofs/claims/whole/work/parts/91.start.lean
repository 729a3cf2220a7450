/-! THE START. The order in which the cells are made, and what they hold when all are made. -/
def okT : List (Nat × Nat) := [(1, 0), (2, 0), (59, 0), (60, 0), (61, 0), (61, 1), (61, 2), (61, 3), (61, 4), (61, 5), (61, 6), (61, 7), (62, 0), (3, 0), (63, 0), (64, 0), (65, 0), (65, 1), (65, 2), (3, 1), (63, 1), (64, 1), (65, 3), (65, 4), (65, 5), (3, 2), (63, 2), (64, 2), (65, 6), (65, 7), (65, 8), (3, 3), (63, 3), (64, 3), (65, 9), (65, 10), (65, 11), (3, 4), (63, 4), (64, 4), (65, 12), (65, 13), (65, 14), (3, 5), (63, 5), (64, 5), (65, 15), (65, 16), (65, 17), (3, 6), (63, 6), (64, 6), (65, 18), (65, 19), (65, 20), (3, 7), (63, 7), (64, 7), (65, 21), (65, 22), (65, 23), (4, 0), (5, 0), (66, 0), (67, 0), (68, 0), (69, 0), (70, 0), (58, 0), (6, 0), (8, 0), (78, 0), (79, 0), (80, 0), (7, 0), (71, 0), (72, 0), (73, 0), (74, 0), (75, 0), (76, 0), (77, 0), (7, 1), (71, 1), (72, 1), (73, 1), (74, 1), (75, 1), (76, 1), (77, 1), (9, 0), (81, 0), (82, 0), (83, 0), (84, 0), (10, 0), (85, 0), (86, 0), (87, 0), (88, 0), (89, 0), (90, 0), (91, 0), (92, 0), (93, 0), (94, 0), (95, 0), (96, 0), (97, 0), (11, 0), (98, 0), (99, 0), (100, 0), (101, 0), (102, 0), (103, 0), (104, 0), (0, 0), (12, 0), (13, 0), (14, 0), (15, 0), (16, 0), (17, 0), (18, 0), (19, 0), (20, 0), (21, 0), (22, 0), (23, 0), (24, 0), (25, 0), (26, 0), (27, 0), (28, 0), (29, 0), (30, 0), (31, 0), (32, 0), (33, 0), (34, 0), (35, 0), (36, 0), (37, 0), (38, 0), (39, 0), (40, 0), (41, 0), (42, 0), (43, 0), (44, 0), (45, 0), (46, 0), (47, 0), (48, 0), (49, 0), (50, 0), (51, 0), (52, 0), (53, 0), (54, 0), (55, 0), (56, 0), (57, 0)]
def okd (j : Nat) : Nat := (okT.getD j (0, 0)).1
def oki (j : Nat) : Nat := (okT.getD j (0, 0)).2
def offT : List (Nat × Nat) := [(117, 0), (0, 0), (1, 0), (13, 6), (61, 0), (62, 0), (69, 0), (74, 8), (70, 0), (90, 0), (95, 0), (109, 0), (118, 0), (119, 0), (120, 0), (121, 0), (122, 0), (123, 0), (124, 0), (125, 0), (126, 0), (127, 0), (128, 0), (129, 0), (130, 0), (131, 0), (132, 0), (133, 0), (134, 0), (135, 0), (136, 0), (137, 0), (138, 0), (139, 0), (140, 0), (141, 0), (142, 0), (143, 0), (144, 0), (145, 0), (146, 0), (147, 0), (148, 0), (149, 0), (150, 0), (151, 0), (152, 0), (153, 0), (154, 0), (155, 0), (156, 0), (157, 0), (158, 0), (159, 0), (160, 0), (161, 0), (162, 0), (163, 0), (68, 0), (2, 0), (3, 0), (4, 1), (12, 0), (14, 6), (15, 6), (16, 1), (63, 0), (64, 0), (65, 0), (66, 0), (67, 0), (75, 8), (76, 8), (77, 8), (78, 8), (79, 8), (80, 8), (81, 8), (71, 0), (72, 0), (73, 0), (91, 0), (92, 0), (93, 0), (94, 0), (96, 0), (97, 0), (98, 0), (99, 0), (100, 0), (101, 0), (102, 0), (103, 0), (104, 0), (105, 0), (106, 0), (107, 0), (108, 0), (110, 0), (111, 0), (112, 0), (113, 0), (114, 0), (115, 0), (116, 0)]
def off (k i : Nat) : Nat := cond (Nat.beq k 65) (16 + 6 * (i / 3) + i % 3) ((offT.getD k (0, 0)).1 + (offT.getD k (0, 0)).2 * i)
theorem ok_off : ∀ k, k < 105 → ∀ i, i < sh_cnt k → okd (off k i) = k ∧ oki (off k i) = i ∧ off k i < 164 := by decide +kernel
theorem off_ok : ∀ j, j < 164 → okd j < 105 ∧ oki j < sh_cnt (okd j) ∧ off (okd j) (oki j) = j := by decide +kernel
def kp (s : Nat) : Int32 := cond (Nat.beq s 0) 12 (cond (Nat.beq s 1) 60 24)
def s0f (k i s : Nat) : Int32 :=
  cond (Nat.beq k 0) (cond (Nat.beq s 14) (-1) 0) (cond (Nat.beq k 6) (cond (Nat.beq s 5) 1 (cond (Nat.beq s 7) (-1) 0)) (cond (Nat.beq k 11) (cond (Nat.beq s 8) (-1) 0) (cond (Nat.beq k 15) (cond (Nat.beq (s / 8) (s % 8)) 0 (-1))
  (cond (Nat.beq k 16) (kp s) (cond (Nat.beq k 61) (cond (Nat.beq s i) 0 (-1)) (cond (Nat.beq k 62) (kp s) 0))))))
def hs0 : HS := (s0f, 0)
def KB (E : EE) (U : State) : Prop := (∀ (c : Nat) (q : vw_C), vwCl[c]? = some q → u_Kn U q.1 q.2.1 q.2.2 (E.1.1 c) (E.1.2 c)) ∧ (∀ t : Nat, t < 5 → ArrOfT U (E.2.1 t) (sh_el t)) ∧ (∀ q ∈ NALL, va_Nw (.methodLinkNest q.1 q.2.1 q.2.2.1 q.2.2.2) U) ∧
  (∀ t : Nat, t < 5 → U.vm.findClass ("[" ++ (sh_el t).toString) = some (E.2.1 t)) ∧ va_AO "StoreRealm$Town" U ∧ (Cond.arrayOver (.array .int)).before #[] U = true
theorem aoa_moved {u U : State} (hvm : u.vm.Alike U.vm) (h : (Cond.arrayOver (.array .int)).before #[] u = true) : (Cond.arrayOver (.array .int)).before #[] U = true := by
  obtain ⟨comp, c, k, h1, h2, h3, h4, h5⟩ := arrayOverA_spec h
  obtain ⟨k', hk', he⟩ := hvm.2.2 _ _ h3
  have hi : (U.vm.classes.findIdx? fun (x : Class) => match x.kind with | .array component _ => component == comp | _ => false) = some c := by
    rw [hvm.findIdx?_eq _ (fun _ => rfl)]; exact h2
  have hkind : k'.kind = .array comp (.array .int) := by rw [he]; exact h4
  have f1 : U.vm.findClass (FieldType.array .int).toString = some comp := by rw [hvm.findClass]; exact h1
  have f2 : U.vm.findClass ("[" ++ (FieldType.array .int).toString) = some c := by rw [hvm.findClass]; exact h5
  unfold Cond.before Cond.holds
  simp only [Cond.value]
  rw [f1, Option.bind_some]
  refine (congrArg (fun o : Option Nat => (o.bind (fun c => (U.vm.classes[c]?).map fun (k : Class) => match k.kind with | .array _ ty => decide (ty = FieldType.array .int) && decide (U.vm.findClass ("[" ++ (FieldType.array .int).toString) = some c) | _ => false) == some true)) hi).trans ?_
  simp [hk', hkind, f2]
theorem KB.go {E : EE} {s U : State} (h : KB E s) (hW : s.WarmedH U.vm) : KB E U := by
  obtain ⟨h1, h2, h3, h4, h5, h6⟩ := h
  have ha := hW.alike
  exact ⟨fun c q hq => u_Kn_moved ha (h1 c q hq), fun t ht => arrOfT_moved ha (h2 t ht), fun q hq => va_Nw.warmM hW (h3 q hq), fun t ht => by rw [ha.findClass]; exact h4 t ht, h5.moved ha, aoa_moved ha h6⟩
theorem KB.same {E : EE} {s U : State} (h : KB E s) (hv : U.vm = s.vm) : KB E U := by
  obtain ⟨h1, h2, h3, h4, h5, h6⟩ := h
  have ha : s.vm.Alike U.vm := by rw [hv]; exact Vm.Alike.refl _
  exact ⟨fun c q hq => u_Kn_moved ha (h1 c q hq), fun t ht => arrOfT_moved ha (h2 t ht), fun q hq => va_Nw.same rfl hv.symm (h3 q hq), fun t ht => by rw [ha.findClass]; exact h4 t ht, h5.moved ha, aoa_moved ha h6⟩
def HE (E : EE) (B0 : Nat) : Prop := ∀ j, j < 164 → E.2.2 (okd j) (oki j) = B0 + j
def RC (E : EE) (j : Nat) (H : Heap) : Prop := RepC E hs0 (okd j) (oki j) H
theorem RC.kept {E : EE} {B0 j : Nat} {H H' : Heap} (h : RC E j H) (hE : HE E B0) (hj : j < 164) (hq : H'[B0 + j]? = H[B0 + j]?) : RC E j H' := by
  obtain ⟨h1, h2⟩ := h
  rw [← hE j hj] at hq
  exact ⟨fun ci r a b => (h1 ci r a b).kept hq, fun t n a => by rw [hq]; exact h2 t n a⟩
theorem RC.arr {E : EE} {B0 j t n : Nat} {H : Heap} {g : Nat → Value} (hE : HE E B0) (hj : j < 164) (ho : sh_obj (okd j) = none) (ha : sh_arr (okd j) = some (t, n)) (h : H[B0 + j]? = some (arrV (E.2.1 t) n g)) (hg : ∀ s, s < n → g s = tv E (gv hs0 (okd j) (oki j) s)) : RC E j H := by
  rw [← hE j hj] at h
  refine ⟨fun ci r a _ => (by rw [ho] at a; cases a), fun t' n' a => ?_⟩
  rw [ha] at a
  cases a
  rw [h]
  exact congrArg some (arrV_ext hg)
theorem RC.obj {E : EE} {B0 j ci : Nat} {r : vw_C} {H : Heap} {f : Nat → Value} (hE : HE E B0) (hj : j < 164) (ho : sh_obj (okd j) = some ci) (hr : vwCl[ci]? = some r) (ha : sh_arr (okd j) = none) (h : t_OB (B0 + j) (E.1.1 ci) r.2.2 (E.1.2 ci) H f) (hf : ∀ s, s < r.2.2 → f s = tv E (gv hs0 (okd j) (oki j) s)) : RC E j H := by
  rw [← hE j hj] at h
  refine ⟨fun ci' r' a b => ?_, fun t' n' a => (by rw [ha] at a; cases a)⟩
  rw [ho] at a
  cases a
  rw [hr] at b
  cases b
  exact h.to hf
theorem f_0 {P : Nat → Prop} : ∀ q, q < 0 → P q := fun q h => absurd h (Nat.not_lt_zero q)
theorem f_s {n : Nat} {P : Nat → Prop} (h : ∀ q, q < n → P q) (h1 : P n) : ∀ q, q < n + 1 → P q := fun q hq => by
  rcases Nat.lt_or_ge q n with z | z
  · exact h q z
  · rw [show q = n by omega]; exact h1
abbrev PD : Type := Nat → Option (Nat × Nat × (Nat → Value))
def GD (E : EE) (B0 : Nat) (D : PD) (j : Nat) (H : Heap) : Prop := match D j with
  | none => RC E j H
  | some q => H[B0 + j]? = some (arrV (E.2.1 q.1) q.2.1 q.2.2)
theorem GD.kept {E : EE} {B0 j : Nat} {D : PD} {H H' : Heap} (h : GD E B0 D j H) (hE : HE E B0) (hj : j < 164) (hq : H'[B0 + j]? = H[B0 + j]?) : GD E B0 D j H' := by
  unfold GD at h ⊢
  cases e : D j with
  | none => rw [e] at h; exact RC.kept h hE hj hq
  | some x => rw [e] at h; rw [hq]; exact h
theorem GD.at {E : EE} {B0 j t n : Nat} {g : Nat → Value} {D : PD} {H : Heap} (h : GD E B0 D j H) (hd : D j = some (t, n, g)) : H[B0 + j]? = some (arrV (E.2.1 t) n g) := by
  unfold GD at h
  rw [hd] at h
  exact h
theorem GD.of {E : EE} {B0 j : Nat} {D D' : PD} {H : Heap} (h : GD E B0 D j H) (hd : D' j = D j) : GD E B0 D' j H := by
  unfold GD at h ⊢
  rw [hd]
  exact h
theorem GD.rc {E : EE} {B0 j : Nat} {D : PD} {H : Heap} (h : GD E B0 D j H) (hd : D j = none) : RC E j H := by
  unfold GD at h
  rw [hd] at h
  exact h
theorem GD.mk {E : EE} {B0 j : Nat} {D : PD} {H : Heap} (h : RC E j H) (hd : D j = none) : GD E B0 D j H := by
  unfold GD
  rw [hd]
  exact h
/-- an object under way at o: N cells made so far, those behind it done or waiting (D), those before it as they were -/
def CI (E : EE) (B0 ci : Nat) (r : vw_C) (o N : Nat) (f : Nat → Value) (D : PD) (H0 H : Heap) : Prop := H.size = B0 + N ∧ o < N ∧ t_OB (B0 + o) (E.1.1 ci) r.2.2 (E.1.2 ci) H f ∧ (∀ j, o < j → j < N → GD E B0 D j H) ∧ ∀ q, q < B0 + o → H[q]? = H0[q]?
def dv (r : vw_C) (ty : Nat → FieldType) : Nat → Value := fun k => defaultValue (ty k)
def LO (B0 : Nat) (locs : List Loc) : Prop := ∀ q ∈ locs, B0 ≤ q.base
theorem LO.snoc {B0 : Nat} {locs L : List Loc} (h : LO B0 locs) (h2 : ∀ q ∈ L, B0 ≤ q.base) : LO B0 (locs ++ L) := fun q hq => (List.mem_append.mp hq).elim (h q) (h2 q)
def rmC (d mc ms : Nat) : Room := { frames := d, cells := mc, slots := ms, locals := d * 64 }
def CE (E : EE) (B0 : Nat) (own : String) (cc : ByteArray) (nL : Nat) (p : Program) (s : State) (m : MethodId) (args : Array Value) (meth : Method) (c : Code) : Prop :=
  p.tables.exec = Jvm.exec ∧ c.code = cc ∧ c.maxLocals = nL ∧ meth.sig.returnType = none ∧ s.vm.findClass own = some m.cls ∧ (∀ w ∈ WALL, w.before args s = true) ∧ meth.locks = false ∧ meth.name = "<init>" ∧ KB E s ∧ HE E B0
section STA
variable {p : Program} {l : Launch} {e : Env} {R : Room} {s : State} {m : MethodId} {args : Array Value} {below : List Frame} {meth : Method} {c : Code} {H H0 : Heap} {locs : List Loc} {cells slots : Nat} {Z : State → Prop} {E : EE} {B0 : Nat} {own : String} {cc : ByteArray} {nL : Nat} {lr : Array Slot} {pc : Nat} {rest : List Value} {ci o N : Nat} {r : vw_C} {f : Nat → Value} {D : PD}
theorem C_put {idx sl : Nat} {ty : FieldType} {v : Value} (he : CE E B0 own cc nL p s m args meth c) (hC : CI E B0 ci r o N f D H0 H) (hl : LO B0 locs) (hN : N ≤ 164) (h : decode cc pc = .ok (.putfield idx, 3)) (hc : CLok ci r) (hf : FL own idx ci r sl) (hd : (r.2.1 sl).1 = own) (hty : parseFieldDescriptor (r.2.1 sl).2.2.1 = some ty) (hn : narrow ty v = v ∧ fits ty v = true)
    (kk : ∀ (H' : Heap) (locs' : List Loc), CI E B0 ci r o N (updV f sl v) D H0 H' → LO B0 locs' → W p l e R s m args below meth c H' locs' cells slots Z (F0 m (pc + 3) lr rest)) : W p l e R s m args below meth c H locs cells slots Z (F0 m pc lr (v :: .ref (B0 + o) :: rest)) := by
  obtain ⟨hx, hb, hml, hret, hown, hts, hlocks, hnm, hK, hE⟩ := he
  obtain ⟨hr, hin, ⟨ty0, hty0⟩, hap0⟩ := hc
  obtain ⟨hs, hlink⟩ := hf
  obtain ⟨c1, c2, ⟨cell, q1, q2, q3, q4⟩, c4, c5⟩ := hC
  obtain ⟨hS', hfc, kC, hkC, hkind⟩ := hK.1 ci r hr
  have hap : ∀ x y, x < r.2.2 → y < r.2.2 → x ≠ y → (E.1.2 ci) x ≠ (E.1.2 ci) y := by
    intro x y hx hy hne
    obtain ⟨_, _, _, fa, hia, ea⟩ := hS' x hx
    obtain ⟨_, _, _, fb, hib, eb⟩ := hS' y hy
    rw [← ea, ← eb]
    refine u_apart (u_lays hts hin hx) (u_lays hts hin hy) hia hib ?_
    rw [(State.fieldFound?_type hia (hty0 x hx)).1, (State.fieldFound?_type hib (hty0 y hy)).1]
    exact hap0 x hx y hy hne
  obtain ⟨cf, kf, fi, fd, hi', hsl⟩ := hS' sl hs
  have hlay := hts _ (hin _ (u_in_lay hs))
  unfold u_lay at hlay
  have hst := (u_facts hfc hkC (u_lays hts hin hs) hi').1
  have fin : ∀ H' : Heap, H'[B0 + o]? = some (cell.setSlot fd.slot v) → H'.size = H.size → (∀ q, q ≠ B0 + o → H'[q]? = H[q]?) → W p l e R s m args below meth c H' (locs ++ [⟨B0 + o, fd.slot⟩]) cells slots Z (F0 m (pc + 3) lr rest) := by
    intro H' e1 e2 e3
    rw [hsl] at e1 ⊢
    refine kk H' _ ⟨by rw [e2]; exact c1, c2, ⟨_, e1, q2, q3, t_set q4 hap hs v⟩, fun j h1 h2 => (c4 j h1 h2).kept hE (by omega) (e3 _ (by omega)), fun q hq => by rw [e3 q (by omega)]; exact c5 q hq⟩ (hl.snoc fun q hq => ?_)
    rw [List.mem_singleton.mp hq]
    exact Nat.le_add_right _ _
  by_cases hfin : (r.2.1 sl).2.2.2 = true
  · rw [if_pos hfin] at hlay
    have hcf : m.cls = cf := by
      obtain ⟨_, _, c', _, _, _, -, -, hf', -, -, -, hown2, -⟩ := Cond.laysFinal_spec hlay
      have e1 : c' = cf := by have := hi'.symm.trans hf'; simp at this; exact this.1.symm
      rw [hd] at hown2
      rw [← e1]; exact Option.some.inj (hown.symm.trans hown2)
    have h6 := u_fits hfc hkC hkind (Or.inr hlay) hi' hty hn.1 hn.2
    exact W.putFinK hx hb hown (hts _ hlink) hi' hst hcf hnm (by rw [q2]; exact h6) q1 q3 (by rw [hsl]; exact k2_hasslot (q4 sl hs)) rfl rfl h fin
  · rw [if_neg hfin] at hlay
    have h6 := u_store hfc hkC hkind hlay hi' hty hn.1 hn.2
    exact W.putK hx hb (f := fd) ⟨hown, hts _ hlink, ⟨_, _, _, hi'⟩, hst⟩ (by rw [q2]; exact h6) q1 q3 (by rw [hsl]; exact k2_hasslot (q4 sl hs)) rfl rfl h fin
end STA
