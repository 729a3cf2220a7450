/-! the start: what a constructor promises, and how it is called -/
def QN (E : EE) (B0 o len : Nat) : Array Value → State → Outcome → State → Prop := fun _ st oc t => oc = .returned none ∧ t.heap.size = B0 + (o + len) ∧ (∀ j, o ≤ j → j < o + len → RC E j t.heap) ∧ ∀ q : Nat, q < B0 + o → t.heap[q]? = st.heap[q]?
def PNw (E : EE) (B0 ci : Nat) (r : vw_C) (ty : Nat → FieldType) (o : Nat) (U : State) : Prop := KB E U ∧ U.heap.size = B0 + (o + 1) ∧ t_OB (B0 + o) (E.1.1 ci) r.2.2 (E.1.2 ci) U.heap (dv r ty)
def CON (l : Launch) (E : EE) (B0 : Nat) (M : MI) (ci : Nat) (r : vw_C) (ty : Nat → FieldType) (o len mc ms d : Nat) : Prop :=
  Met l M.1 (Cond.code M.1 M.2.1 M.2.2.1 M.2.2.2 :: WALL) (rmC d mc ms) (va_Pc [.ref (B0 + o)] (PNw E B0 ci r ty o)) (QN E B0 o len) mc ms (fun q => B0 ≤ q)
section STC
variable {p : Program} {l : Launch} {e : Env} {R : Room} {s : State} {m : MethodId} {args : Array Value} {below : List Frame} {meth : Method} {c : Code} {H H0 : Heap} {locs : List Loc} {cells slots cells' slots' : Nat} {Z : State → Prop} {E : EE} {B0 : Nat} {own : String} {cc : ByteArray} {nL : Nat} {lr : Array Slot} {pc : Nat} {rest : List Value} {ci o N : Nat} {r : vw_C} {f : Nat → Value} {D : PD} {ty : Nat → FieldType} {M : MI} {len mc ms d : Nat}
theorem CON.ofW (hE : HE E B0) (hpl : plainName M.1.cls = true) (hnm : M.1.name = "<init>") (hret : M.2.2.2 = none) (hnL : 1 ≤ M.2.2.1)
    (body : ∀ (p : Program) (e : Env) (s : State) (m : MethodId) (args : Array Value) (below : List Frame) (meth : Method) (c : Code) (lr : Array Slot), CE E B0 M.1.cls M.2.1 M.2.2.1 p s m args meth c → CI E B0 ci r o (o + 1) (dv r ty) D0 s.heap s.heap → lv_has lr M.2.2.1 [(0, .ref (B0 + o))] →
      W p l e (rmC d mc ms) s m args below meth c s.heap [] 0 0 (MQ below (QN E B0 o len) args s mc ms (fun q => B0 ≤ q)) (F0 m 0 lr [])) : CON l E B0 M ci r ty o len mc ms d := by
  refine Met.ofW (cc := M.2.1) (maxL := M.2.2.1) (ret := M.2.2.2) hpl rfl ?_
  intro p e s m args below meth c s₁ B hml hv
  obtain ⟨rfl, hK, hsz, hO⟩ := hv
  have hts := atoms_spec (ws := Cond.code M.1 M.2.1 M.2.2.1 M.2.2.2 :: WALL) B.pre
  have hl := lv_entry [.ref (B0 + o)] (n := M.2.2.1) hnL
  rw [lg_entry_eq]
  exact body p e s m _ below meth c _ ⟨B.exec, B.bytes, hml, B.returns.trans hret, findClass_of_methodNamed B.named, fun w hw => hts w (List.mem_cons_of_mem _ hw), B.notSynchronized, (name_of_methodNamed B.named B.method).1.trans hnm, hK, hE⟩ ⟨hsz, Nat.lt_succ_self o, hO, fun j h1 h2 => by omega, fun _ _ => rfl⟩ hl
/-- the constructor's end -/
theorem C_end (he : CE E B0 own cc nL p s m args meth c) (hC : CI E B0 ci r o N f D s.heap H) (hl : LO B0 locs) (hN : N ≤ 164) (hlen : N = o + len) (h : decode cc pc = .ok (.return_, 1)) (ho : sh_obj (okd o) = some ci) (hr : vwCl[ci]? = some r) (ha : sh_arr (okd o) = none) (hD : ∀ j, o < j → j < N → D j = none) (hf : ∀ q, q < r.2.2 → f q = tv E (gv hs0 (okd o) (oki o) q)) : W p l e R s m args below meth c H locs cells slots (MQ below (QN E B0 o len) args s cells slots (fun q => B0 ≤ q)) (F0 m pc lr []) := by
  obtain ⟨hx, hb, hml, hret, hown, hts, hlocks, hnm, hK, hE⟩ := he
  obtain ⟨c1, c2, c3, c4, c5⟩ := hC
  refine W.vret hx hb hret (fun t ht hW => ⟨rfl, by rw [ht, c1, hlen], fun j h1 h2 => ?_, fun q hq => by rw [ht]; exact c5 q hq⟩) hl h
  rw [ht]
  by_cases ej : j = o
  · subst ej
    exact RC.obj hE (by omega) ho hr ha c3 hf
  · exact (c4 j (by omega) (by omega)).rc (hD j (by omega) (by omega))
theorem ML0.baseC {n : Nat} (h : ML0 M n) (hts : ∀ w ∈ WALL, w.before args s = true) (hRf : d + 1 ≤ R.frames) (hRl : d * 64 + 64 ≤ R.locals) :
    ((rmC d mc ms).cells = mc ∧ (rmC d mc ms).slots = ms ∧ (rmC d mc ms).frames + 1 ≤ R.frames ∧ 8 + (M.2.2.1 + 11) + (rmC d mc ms).locals ≤ R.locals ∧ (∀ w ∈ Cond.code M.1 M.2.1 M.2.2.1 M.2.2.2 :: WALL, ∀ (a' : Array Value) (U : State), s.WarmedH U.vm → w.before a' U = true) ∧ Cond.code M.1 M.2.1 M.2.2.1 M.2.2.2 ∈ Cond.code M.1 M.2.1 M.2.2.1 M.2.2.2 :: WALL) ∧
    (Cond.code M.1 M.2.1 M.2.2.1 M.2.2.2).before args s = true ∧ (Cond.initialized M.1.cls).before args s = true ∧ (M.1.cls ≠ "java/lang/invoke/MethodHandle" ∧ M.1.cls ≠ "java/lang/invoke/VarHandle") ∧ (∀ sig, parseMethodDescriptor M.1.desc = some sig → n = sig.parameters.length) := by
  obtain ⟨h1, h2, ⟨h3, h4, h5⟩, h6, h7⟩ := h
  refine ⟨⟨rfl, rfl, hRf, ?_, pay_in hts (fun w hw => ?_), List.mem_cons_self⟩, hts _ h1, hts _ h2, ⟨h3, h4⟩, fun sig hs => ?_⟩
  · show 8 + (M.2.2.1 + 11) + d * 64 ≤ _; omega
  · rcases List.mem_cons.mp hw with rfl | hw
    · exact ⟨h1, WALL_good h1⟩
    · exact ⟨hw, WALL_good hw⟩
  · rw [hs] at h5
    exact (Option.some.inj h5).symm
/-- 'new', the constructor's call -/
theorem R_new {idx idx2 n : Nat} (hx : p.tables.exec = Jvm.exec) (hb : c.code = cc) (hml : c.maxLocals = nL) (hown : s.vm.findClass own = some m.cls) (hts : ∀ w ∈ WALL, w.before args s = true) (hK : KB E s) (hcl : CLok ci r) (hty : ∀ k, k < r.2.2 → parseFieldDescriptor (r.2.1 k).2.2.1 = some (ty k))
    (hclink : Cond.classLink own idx r.1 ∈ WALL) (hins : Cond.instantiable r.1 n ∈ WALL) (hini : Cond.initialized r.1 ∈ WALL) (h0 : decode cc pc = .ok (.new idx, 3)) (h1 : decode cc (pc + 3) = .ok (.dup, 1)) (h2 : decode cc (pc + 4) = .ok (.invokespecial idx2, 3))
    (hM : CON l E B0 M ci r ty o len mc ms d) (hm0 : ML0 M 0) (hret : M.2.2.2 = none) (hname : M.1.name = "<init>") (hinst : Cond.instanceMethod M.1 ∈ WALL) (hlink : Cond.methodLink own idx2 M.1 ∈ WALL ∨ ∃ host, (own, idx2, M.1, host) ∈ NALL) (hsz : H.size = B0 + o) (hl : LO B0 locs) (hlr : lr.size = nL) (hrest : (rest.map fun v => v.category).sum ≤ 7)
    (hRf : d + 1 ≤ R.frames) (hRl : d * 64 + 64 ≤ R.locals) (hcs : cells + 1 + mc = cells') (hcl2 : cells' ≤ R.cells) (hss : slots + n + ms = slots') (hsl : slots' ≤ R.slots)
    (kk : ∀ (H' : Heap) (locs' : List Loc), H'.size = B0 + (o + len) → (∀ j, o ≤ j → j < o + len → RC E j H') → (∀ q : Nat, q < B0 + o → H'[q]? = H[q]?) → LO B0 locs' → W p l e R s m args below meth c H' locs' cells' slots' Z (F0 m (pc + 7) lr (.ref (B0 + o) :: rest))) : W p l e R s m args below meth c H locs cells slots Z (F0 m pc lr rest) := by
  subst hcs; subst hss
  obtain ⟨hr, hin, -, -⟩ := hcl
  have hKn := hK.1 ci r hr
  refine W.newcK hx hb hown (hts _ hclink) (hts _ hins) (hts _ hini) rfl h0 (by omega) (by omega) hKn.2.1 hsz (fun H1 kC k1 k2 k3 k4 => ?_)
  have hO := u_born ty hts hin hKn k1 k2 hty
  refine lv_dup hx hb h1 rfl ?_
  obtain ⟨b1, b2, b3, b4, b5⟩ := hm0.baseC (d := d) (mc := mc) (ms := ms) (R := R) hts hRf hRl
  have hpre : PreS s H1 (va_Pc [.ref (B0 + o)] (PNw E B0 ci r ty o)) (.ref (B0 + o) :: []) := ⟨fun a U g mk h => ⟨h.1, h.2.1.same rfl, h.2.2.1, h.2.2.2⟩, fun U hU hW => ⟨rfl, hK.go hW, by rw [hU, k3]; rfl, by rw [hU]; exact hO⟩⟩
  have hrun : va_Run p l e R s m args below meth c H1 locs (cells + 1) (slots + n) mc ms (F0 m (pc + 3 + 1) lr (.ref (B0 + o) :: .ref (B0 + o) :: rest)) (.ref (B0 + o) :: rest) (QN E B0 o len #[.ref (B0 + o)]) (fun q => B0 ≤ q) := by
    have hcat : ((Value.ref (B0 + o) :: rest).map fun v => v.category).sum ≤ 8 := by
      rw [List.map_cons, List.sum_cons]
      have : (Value.ref (B0 + o)).category = 1 := rfl
      omega
    rcases hlink with hl2 | ⟨host, hl2⟩
    · exact va_runI (Ts := WALL) (bytes := M.2.1) (maxL := M.2.2.1) (As := []) ⟨hx, hb, hml, hown, hts⟩ hM (by rw [hret] at b1 b2; exact ⟨⟨b1.1, b1.2.1, b1.2.2.1, b1.2.2.2.1, by rw [hret]; exact b1.2.2.2.2.1, by rw [hret]; exact b1.2.2.2.2.2, b2, b3, b4, b5, hts _ hl2⟩, hname, hts _ hinst⟩) hpre rfl rfl hlr rfl (lv_room hcat) h2 ⟨hcl2, hsl⟩
    · exact va_runIN (Ts := WALL) (bytes := M.2.1) (maxL := M.2.2.1) (host := host) (As := []) ⟨hx, hb, hml, hown, hts⟩ hM (by rw [hret] at b1 b2; exact ⟨⟨⟨b1.1, b1.2.1, b1.2.2.1, b1.2.2.2.1, by rw [hret]; exact b1.2.2.2.2.1, by rw [hret]; exact b1.2.2.2.2.2⟩, b2, b3, b4, b5, va_Nw.use rfl (hK.2.2.1 _ hl2)⟩, hname, hts _ hinst⟩) hpre rfl rfl hlr rfl (lv_room hcat) h2 ⟨hcl2, hsl⟩
  intro T hT X
  obtain ⟨v, st₀, t, T', L, g0, X', hL, e1, e2, ⟨hv, q1, q2, q3⟩, st⟩ := hrun T hT X
  cases hv
  obtain ⟨t2, a1, z1⟩ := kk T'.heap (locs ++ L) (by rw [e1]; exact q1) (fun j h1 h2 => by rw [e1]; exact q2 j h1 h2) (fun q hq => by rw [e1, q3 q hq, g0]; exact k4 q hq) (hl.snoc hL) T' rfl X'
  exact ⟨t2, st t2 a1, z1⟩
/-- a field gets a new object -/
theorem C_new {idx idx2 n o2 ci2 : Nat} {r2 : vw_C} (he : CE E B0 own cc nL p s m args meth c) (hC : CI E B0 ci2 r2 o2 N f D H0 H) (hl : LO B0 locs) (hcl : CLok ci r) (hty : ∀ k, k < r.2.2 → parseFieldDescriptor (r.2.1 k).2.2.1 = some (ty k))
    (hclink : Cond.classLink own idx r.1 ∈ WALL) (hins : Cond.instantiable r.1 n ∈ WALL) (hini : Cond.initialized r.1 ∈ WALL) (h0 : decode cc pc = .ok (.new idx, 3)) (h1 : decode cc (pc + 3) = .ok (.dup, 1)) (h2 : decode cc (pc + 4) = .ok (.invokespecial idx2, 3))
    (hM : CON l E B0 M ci r ty N len mc ms d) (hm0 : ML0 M 0) (hret : M.2.2.2 = none) (hname : M.1.name = "<init>") (hinst : Cond.instanceMethod M.1 ∈ WALL) (hlink : Cond.methodLink own idx2 M.1 ∈ WALL ∨ ∃ host, (own, idx2, M.1, host) ∈ NALL) (hlr : lr.size = nL) (hrest : (rest.map fun v => v.category).sum ≤ 7)
    (hRf : d + 1 ≤ R.frames) (hRl : d * 64 + 64 ≤ R.locals) (hcs : cells + 1 + mc = cells') (hcl2 : cells' ≤ R.cells) (hss : slots + n + ms = slots') (hsl : slots' ≤ R.slots) (hN : N + len ≤ 164) (hlen : 0 < len) (hD : ∀ j, N ≤ j → j < N + len → D j = none)
    (kk : ∀ (H' : Heap) (locs' : List Loc), CI E B0 ci2 r2 o2 (N + len) f D H0 H' → LO B0 locs' → W p l e R s m args below meth c H' locs' cells' slots' Z (F0 m (pc + 7) lr (.ref (B0 + N) :: rest))) : W p l e R s m args below meth c H locs cells slots Z (F0 m pc lr rest) := by
  obtain ⟨hx, hb, hml, hret2, hown, hts, hlocks, hnm, hK, hE⟩ := he
  obtain ⟨c1, c2, c3, c4, c5⟩ := hC
  refine R_new hx hb hml hown hts hK hcl hty hclink hins hini h0 h1 h2 hM hm0 hret hname hinst hlink c1 hl hlr hrest hRf hRl hcs hcl2 hss hsl (fun H' locs' g1 g2 g3 g4 => ?_)
  refine kk H' locs' ⟨g1, by omega, c3.kept (g3 _ (by omega)), fun j h1 h2 => ?_, fun q hq => by rw [g3 q (by omega)]; exact c5 q hq⟩ g4
  by_cases hj : j < N
  · exact (c4 j h1 hj).kept hE (by omega) (g3 _ (by omega))
  · exact GD.mk (g2 j (by omega) h2) (hD j (by omega) h2)
end STC
