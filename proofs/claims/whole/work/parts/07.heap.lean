theorem Rep.setO {E : EE} {σ σ' : HS} {H H' : Heap} {k i ci s : Nat} {r : vw_C} {v : AV} (hR : Rep E σ H) (hI : Inj E) (hk : k < sh_NK) (hi : i < sh_cnt k) (ho : sh_obj k = some ci) (hr : vwCl[ci]? = some r) (hna : sh_arr k = none)
    (hOB : t_OB (E.2.2 k i) (E.1.1 ci) r.2.2 (E.1.2 ci) H' (updV (fun j => tv E (gv σ k i j)) s (tv E v))) (hsame : ∀ q : Nat, q ≠ E.2.2 k i → H'[q]? = H[q]?)
    (hg : ∀ k' i' s' : Nat, k' < sh_NK → i' < sh_cnt k' → gv σ' k' i' s' = if k' = k ∧ i' = i ∧ s' = s then v else gv σ k' i' s') : Rep E σ' H' := by
  intro k' i' hk' hi'
  by_cases e : k' = k ∧ i' = i
  · obtain ⟨rfl, rfl⟩ := e
    refine ⟨fun ci' r' h1 h2 => ?_, fun t n h => by rw [hna] at h; cases h⟩
    cases ho.symm.trans h1
    cases hr.symm.trans h2
    refine hOB.to (fun j hj => ?_)
    rw [hg k' i' j hk' hi']
    by_cases ej : j = s
    · simp [updV, ej]
    · simp [updV, ej]
  · have hne : E.2.2 k' i' ≠ E.2.2 k i := fun h => e (hI k' i' k i hk' hi' hk hi h)
    have hgg : ∀ s', gv σ' k' i' s' = gv σ k' i' s' := fun s' => by
      rw [hg k' i' s' hk' hi', if_neg (fun h => e ⟨h.1, h.2.1⟩)]
    obtain ⟨h1, h2⟩ := hR k' i' hk' hi'
    refine ⟨fun ci' r' a b => ((h1 ci' r' a b).kept (hsame _ hne)).to (fun j _ => by rw [hgg]), fun t n a => ?_⟩
    rw [hsame _ hne, h2 t n a]
    have : (fun s => tv E (gv σ' k' i' s)) = (fun s => tv E (gv σ k' i' s)) := funext fun s => by rw [hgg]
    rw [this]
theorem Rep.setA {E : EE} {σ σ' : HS} {H H' : Heap} {k i t n s : Nat} {v : AV} (hR : Rep E σ H) (hI : Inj E) (hk : k < sh_NK) (hi : i < sh_cnt k) (ha : sh_arr k = some (t, n)) (hno : sh_obj k = none)
    (hA : H'[E.2.2 k i]? = some (arrV (E.2.1 t) n (updV (fun j => tv E (gv σ k i j)) s (tv E v)))) (hsame : ∀ q : Nat, q ≠ E.2.2 k i → H'[q]? = H[q]?)
    (hg : ∀ k' i' s' : Nat, k' < sh_NK → i' < sh_cnt k' → gv σ' k' i' s' = if k' = k ∧ i' = i ∧ s' = s then v else gv σ k' i' s') : Rep E σ' H' := by
  intro k' i' hk' hi'
  by_cases e : k' = k ∧ i' = i
  · obtain ⟨rfl, rfl⟩ := e
    refine ⟨fun ci' r' h1 h2 => (by rw [hno] at h1; cases h1), fun t' n' h => ?_⟩
    cases ha.symm.trans h
    rw [hA]
    congr 2
    funext j
    rw [hg k' i' j hk' hi']
    by_cases ej : j = s
    · simp [updV, ej]
    · simp [updV, ej]
  · have hne : E.2.2 k' i' ≠ E.2.2 k i := fun h => e (hI k' i' k i hk' hi' hk hi h)
    have hgg : ∀ s', gv σ' k' i' s' = gv σ k' i' s' := fun s' => by
      rw [hg k' i' s' hk' hi', if_neg (fun h => e ⟨h.1, h.2.1⟩)]
    obtain ⟨h1, h2⟩ := hR k' i' hk' hi'
    refine ⟨fun ci' r' a b => ((h1 ci' r' a b).kept (hsame _ hne)).to (fun j _ => by rw [hgg]), fun t n a => ?_⟩
    rw [hsame _ hne, h2 t n a]
    have : (fun s => tv E (gv σ' k' i' s)) = (fun s => tv E (gv σ k' i' s)) := funext fun s => by rw [hgg]
    rw [this]
theorem gv_up {σ : HS} {k i s : Nat} {x : Int32} (h : intS k i s = true) (k' i' s' : Nat) : gv (up σ k i s x) k' i' s' = if k' = k ∧ i' = i ∧ s' = s then vI x else gv σ k' i' s' := by
  by_cases e : k' = k ∧ i' = i ∧ s' = s
  · obtain ⟨rfl, rfl, rfl⟩ := e
    rw [gv_int h]
    simp [up]
  · rw [if_neg e]
    unfold gv
    have : (up σ k i s x).1 k' i' s' = σ.1 k' i' s' := by simp [up, e]
    rw [this]
    rfl
theorem gv_upY {σ : HS} {k i s k1 j : Nat} (h1 : sh_rf k i s = none) (h2 : sh_dy k s = some k1) (hj : j < 2 ^ 31) (k' i' s' : Nat) : gv (up σ k i s (nI j)) k' i' s' = if k' = k ∧ i' = i ∧ s' = s then vR k1 j else gv σ k' i' s' := by
  by_cases e : k' = k ∧ i' = i ∧ s' = s
  · obtain ⟨rfl, rfl, rfl⟩ := e
    have : (up σ k' i' s' (nI j)).1 k' i' s' = nI j := by simp [up]
    simp [gv, h1, h2, this, nI_clamp hj]
  · rw [if_neg e]
    unfold gv
    have : (up σ k i s (nI j)).1 k' i' s' = σ.1 k' i' s' := by simp [up, e]
    rw [this]
    rfl
theorem vp_lt {x : Int32} {n : Nat} (h : vp_in x n) : x.toNatClampNeg < n := by
  unfold vp_in at h
  omega
section EVH
variable {d : Nat} {M : MI} {pc : Nat} {ls : List (Option AV)} {st : List AV} {σ : HS} {Q : Option AV → HS → Prop}
theorem EV.getf {idx ci k i s : Nat} {r : vw_C} {v : AV} (h : decode M.2.1 pc = .ok (.getfield idx, 3)) (hc : CLok ci r) (hf : FL M.1.cls idx ci r s) (hk : k < sh_NK) (ho : sh_obj k = some ci) (hi : i < sh_cnt k) (hv : gv σ k i s = v) (kk : EV d M (pc + 3) ls (v :: st) σ Q) : EV d M pc ls (vR k i :: st) σ Q := by
  intro E p l e s0 m args below meth c H locs lr he hR hS hL
  obtain ⟨hr, hin, -, -⟩ := hc
  obtain ⟨hs, hlink⟩ := hf
  obtain ⟨cell, q1, q2, q3, q4⟩ := (hR k i hk hi).1 ci r ho hr
  have hw := kk E p l e s0 m args below meth c H locs lr he hR hS hL
  obtain ⟨hx, hb, hml, hret, hown, hts, hlocks, hI, hK⟩ := he
  obtain ⟨hS', hfc, kC, hkC, hkind⟩ := hK.1 ci r hr
  obtain ⟨cf, kf, fi, f, hi', hsl⟩ := hS' s hs
  refine W.getf hx hb hown (hts _ hlink) hi' (u_facts hfc hkC (u_lays hts hin hs) hi').1 q1 (by rw [q3]; exact fun h => by cases h) (v := tv E v) ?_ rfl rfl h hw
  rw [hsl, q4 s hs]
  exact congrArg (fun z => some (tv E z)) hv
theorem EV.putG {idx ci k i s : Nat} {r : vw_C} {ty : FieldType} {v : AV} {σ' : HS} (h : decode M.2.1 pc = .ok (.putfield idx, 3)) (hc : CLok ci r) (hf : FL M.1.cls idx ci r s) (hk : k < sh_NK) (ho : sh_obj k = some ci) (hna : sh_arr k = none) (hi : i < sh_cnt k)
    (hfin : (r.2.1 s).2.2.2 = false) (hty : parseFieldDescriptor (r.2.1 s).2.2.1 = some ty) (hn : ∀ E, narrow ty (tv E v) = tv E v ∧ fits ty (tv E v) = true)
    (hg : ∀ k' i' s' : Nat, k' < sh_NK → i' < sh_cnt k' → gv σ' k' i' s' = if k' = k ∧ i' = i ∧ s' = s then v else gv σ k' i' s')
    (kk : EV d M (pc + 3) ls st σ' Q) : EV d M pc ls (v :: vR k i :: st) σ Q := by
  intro E p l e s0 m args below meth c H locs lr he hR hS hL
  have he0 := he
  obtain ⟨hr, hin, ⟨ty0, hty0⟩, hnm⟩ := hc
  obtain ⟨hs, hlink⟩ := hf
  obtain ⟨cell, q1, q2, q3, q4⟩ := (hR k i hk hi).1 ci r ho hr
  obtain ⟨hx, hb, hml, hret, hown, hts, hlocks, hI, hK⟩ := he
  obtain ⟨hS', hfc, kC, hkC, hkind⟩ := hK.1 ci r hr
  have hap : ∀ x y, x < r.2.2 → y < r.2.2 → x ≠ y → (E.1.2 ci) x ≠ (E.1.2 ci) y := by
    intro x y hx hy hne
    obtain ⟨_, _, _, fa, hia, ea⟩ := hS' x hx
    obtain ⟨_, _, _, fb, hib, eb⟩ := hS' y hy
    rw [← ea, ← eb]
    refine u_apart (u_lays hts hin hx) (u_lays hts hin hy) hia hib ?_
    rw [(State.fieldFound?_type hia (hty0 x hx)).1, (State.fieldFound?_type hib (hty0 y hy)).1]
    exact hnm x hx y hy hne
  obtain ⟨cf, kf, fi, f, hi', hsl⟩ := hS' s hs
  have hlay := hts _ (hin _ (u_in_lay hs))
  unfold u_lay at hlay
  rw [if_neg (by rw [hfin]; decide)] at hlay
  have hst := (u_facts hfc hkC (u_lays hts hin hs) hi').1
  have h6 := u_store hfc hkC hkind hlay hi' hty (hn E).1 (hn E).2
  refine W.putK hx hb (f := f) ⟨hown, hts _ hlink, ⟨_, _, _, hi'⟩, hst⟩ (by rw [q2]; exact h6) q1 q3 (by rw [hsl]; exact k2_hasslot (q4 s hs)) rfl rfl h fun H' e1 e2 e3 => ?_
  rw [hsl] at e1 ⊢
  have hR' : Rep E σ' H' := hR.setO hI hk hi ho hr hna (s := s) (v := v) ⟨_, e1, q2, q3, t_set q4 hap hs (tv E v)⟩ e3 hg
  exact kk E p l e s0 m args below meth c H' _ lr he0 hR' (hS.put e2 e3 ⟨k, i, hk, hi, rfl⟩) hL
theorem EV.putI {idx ci k i s : Nat} {r : vw_C} {ty : FieldType} {x : Int32} (h : decode M.2.1 pc = .ok (.putfield idx, 3)) (hc : CLok ci r) (hf : FL M.1.cls idx ci r s) (hk : k < sh_NK) (ho : sh_obj k = some ci) (hna : sh_arr k = none) (hi : i < sh_cnt k)
    (hfin : (r.2.1 s).2.2.2 = false) (hty : parseFieldDescriptor (r.2.1 s).2.2.1 = some ty) (hn : narrow ty (.int x) = .int x ∧ fits ty (.int x) = true) (hz : intS k i s = true)
    (kk : EV d M (pc + 3) ls st (up σ k i s x) Q) : EV d M pc ls (vI x :: vR k i :: st) σ Q :=
  EV.putG h hc hf hk ho hna hi hfin hty (fun _ => hn) (fun k' i' s' _ _ => gv_up hz k' i' s') kk
theorem EV.putY {idx ci k i s k1 j : Nat} {r : vw_C} {ty : FieldType} (h : decode M.2.1 pc = .ok (.putfield idx, 3)) (hc : CLok ci r) (hf : FL M.1.cls idx ci r s) (hk : k < sh_NK) (ho : sh_obj k = some ci) (hna : sh_arr k = none) (hi : i < sh_cnt k)
    (hfin : (r.2.1 s).2.2.2 = false) (hty : parseFieldDescriptor (r.2.1 s).2.2.1 = some ty) (hn : ∀ a : Nat, narrow ty (.ref a) = .ref a ∧ fits ty (.ref a) = true) (h1 : sh_rf k i s = none) (h2 : sh_dy k s = some k1) (hj : j < 2 ^ 31)
    (kk : EV d M (pc + 3) ls st (up σ k i s (nI j)) Q) : EV d M pc ls (vR k1 j :: vR k i :: st) σ Q :=
  EV.putG h hc hf hk ho hna hi hfin hty (fun E => hn _) (fun k' i' s' _ _ => gv_upY h1 h2 hj k' i' s') kk
theorem EV.putL {idx ci k i s : Nat} {r : vw_C} {ty : FieldType} {x : Int64} (h : decode M.2.1 pc = .ok (.putfield idx, 3)) (hc : CLok ci r) (hf : FL M.1.cls idx ci r s) (hk : k < sh_NK) (ho : sh_obj k = some ci) (hna : sh_arr k = none) (hi : i < sh_cnt k)
    (hfin : (r.2.1 s).2.2.2 = false) (hty : parseFieldDescriptor (r.2.1 s).2.2.1 = some ty) (hn : narrow ty (.long x) = .long x ∧ fits ty (.long x) = true) (hg : ∀ k' i' s' : Nat, k' < sh_NK → i' < sh_cnt k' → gv (σ.1, x) k' i' s' = if k' = k ∧ i' = i ∧ s' = s then vL x else gv σ k' i' s')
    (kk : EV d M (pc + 3) ls st (σ.1, x) Q) : EV d M pc ls (vL x :: vR k i :: st) σ Q :=
  EV.putG h hc hf hk ho hna hi hfin hty (fun _ => hn) hg kk
theorem arr_of {E : EE} {σ : HS} {H : Heap} {s0 : State} {k i t n : Nat} (hR : Rep E σ H) (hK : KK E s0 s0.heap) (hk : k < sh_NK) (hi : i < sh_cnt k) (ha : sh_arr k = some (t, n)) (ht : t < 5) :
    H[E.2.2 k i]? = some (arrV (E.2.1 t) n (fun s => tv E (gv σ k i s))) ∧ s0.isArrayOf (arrV (E.2.1 t) n (fun s => tv E (gv σ k i s))) (sh_el t) ∧ (arrV (E.2.1 t) n (fun s => tv E (gv σ k i s))).vm ≠ .unknown ∧ (arrV (E.2.1 t) n (fun s => tv E (gv σ k i s))).slots.size = n := by
  refine ⟨(hR k i hk hi).2 t n ha, hK.2.1 t ht _ _, (fun h => by cases h), arrV_size _ _ _⟩
theorem EV.iald {k i n : Nat} {x : Int32} {v : AV} (h : decode M.2.1 pc = .ok (.iaload, 1)) (hk : k < sh_NK) (ha : sh_arr k = some (0, n)) (hi : i < sh_cnt k) (hin : vp_in x n) (hv : gv σ k i x.toNatClampNeg = v) (kk : EV d M (pc + 1) ls (v :: st) σ Q) : EV d M pc ls (vI x :: vR k i :: st) σ Q := by
  intro E p l e s0 m args below meth c H locs lr he hR hS hL
  obtain ⟨a1, a2, a3, a4⟩ := arr_of hR he.2.2.2.2.2.2.2.2 hk hi ha (by omega)
  exact W.iald he.1 he.2.1 a1 a2 a3 (by rw [a4]; exact hin) (by rw [arrV_read _ _ (vp_lt hin), hv]) rfl rfl h (kk E p l e s0 m args below meth c H locs lr he hR hS hL)
theorem EV.bald {k i n : Nat} {x : Int32} {v : AV} (h : decode M.2.1 pc = .ok (.baload, 1)) (hk : k < sh_NK) (ha : sh_arr k = some (1, n)) (hi : i < sh_cnt k) (hin : vp_in x n) (hv : gv σ k i x.toNatClampNeg = v) (kk : EV d M (pc + 1) ls (v :: st) σ Q) : EV d M pc ls (vI x :: vR k i :: st) σ Q := by
  intro E p l e s0 m args below meth c H locs lr he hR hS hL
  obtain ⟨a1, a2, a3, a4⟩ := arr_of hR he.2.2.2.2.2.2.2.2 hk hi ha (by omega)
  exact W.bald he.1 he.2.1 a1 a2 a3 (by rw [a4]; exact hin) (by rw [arrV_read _ _ (vp_lt hin), hv]) rfl rfl h (kk E p l e s0 m args below meth c H locs lr he hR hS hL)
theorem EV.sald {k i n : Nat} {x : Int32} {v : AV} (h : decode M.2.1 pc = .ok (.saload, 1)) (hk : k < sh_NK) (ha : sh_arr k = some (2, n)) (hi : i < sh_cnt k) (hin : vp_in x n) (hv : gv σ k i x.toNatClampNeg = v) (kk : EV d M (pc + 1) ls (v :: st) σ Q) : EV d M pc ls (vI x :: vR k i :: st) σ Q := by
  intro E p l e s0 m args below meth c H locs lr he hR hS hL
  obtain ⟨a1, a2, a3, a4⟩ := arr_of hR he.2.2.2.2.2.2.2.2 hk hi ha (by omega)
  exact W.sald he.1 he.2.1 a1 a2 a3 (by rw [a4]; exact hin) (by rw [arrV_read _ _ (vp_lt hin), hv]) rfl rfl h (kk E p l e s0 m args below meth c H locs lr he hR hS hL)
theorem EV.aald {k i t n : Nat} {x : Int32} {v : AV} (h : decode M.2.1 pc = .ok (.aaload, 1)) (hk : k < sh_NK) (ha : sh_arr k = some (t, n)) (ht : t < 5) (hrt : (sh_el t).isReference = true) (hi : i < sh_cnt k) (hin : vp_in x n) (hv : gv σ k i x.toNatClampNeg = v) (kk : EV d M (pc + 1) ls (v :: st) σ Q) : EV d M pc ls (vI x :: vR k i :: st) σ Q := by
  intro E p l e s0 m args below meth c H locs lr he hR hS hL
  obtain ⟨a1, a2, a3, a4⟩ := arr_of hR he.2.2.2.2.2.2.2.2 hk hi ha ht
  exact W.aald he.1 he.2.1 a1 a2 hrt a3 (by rw [a4]; exact hin) (by rw [arrV_read _ _ (vp_lt hin), hv]) rfl rfl h (kk E p l e s0 m args below meth c H locs lr he hR hS hL)
theorem EV.alen {k i t n : Nat} {v : Int32} (h : decode M.2.1 pc = .ok (.arraylength, 1)) (hk : k < sh_NK) (ha : sh_arr k = some (t, n)) (ht : t < 5) (hi : i < sh_cnt k) (hv : n.toInt32 = v) (kk : EV d M (pc + 1) ls (vI v :: st) σ Q) : EV d M pc ls (vR k i :: st) σ Q := by
  intro E p l e s0 m args below meth c H locs lr he hR hS hL
  obtain ⟨a1, a2, a3, a4⟩ := arr_of hR he.2.2.2.2.2.2.2.2 hk hi ha ht
  exact W.alen he.1 he.2.1 a1 a2 (by rw [a4]; exact hv) rfl rfl h (kk E p l e s0 m args below meth c H locs lr he hR hS hL)
theorem EV.iast {k i n : Nat} {x v : Int32} (h : decode M.2.1 pc = .ok (.iastore, 1)) (hk : k < sh_NK) (ha : sh_arr k = some (0, n)) (hno : sh_obj k = none) (hi : i < sh_cnt k) (hin : vp_in x n) (hz : intS k i x.toNatClampNeg = true) (kk : EV d M (pc + 1) ls st (up σ k i x.toNatClampNeg v) Q) : EV d M pc ls (vI v :: vI x :: vR k i :: st) σ Q := by
  intro E p l e s0 m args below meth c H locs lr he hR hS hL
  obtain ⟨a1, a2, a3, a4⟩ := arr_of hR he.2.2.2.2.2.2.2.2 hk hi ha (by omega)
  refine W.iast he.1 he.2.1 a1 a2 a3 (by rw [a4]; exact hin) rfl rfl h (fun H' e1 e2 e3 => ?_)
  rw [arrV_store] at e1
  have hR' : Rep E (up σ k i x.toNatClampNeg v) H' := hR.setA he.2.2.2.2.2.2.2.1 hk hi ha hno (v := vI v) e1 e3 (fun k' i' s' _ _ => gv_up hz k' i' s')
  exact kk E p l e s0 m args below meth c H' _ lr he hR' (hS.put e2 e3 ⟨k, i, hk, hi, rfl⟩) hL
theorem EV.bast {k i n : Nat} {x v : Int32} (h : decode M.2.1 pc = .ok (.bastore, 1)) (hk : k < sh_NK) (ha : sh_arr k = some (1, n)) (hno : sh_obj k = none) (hi : i < sh_cnt k) (hin : vp_in x n) (hz : intS k i x.toNatClampNeg = true) (kk : EV d M (pc + 1) ls st (up σ k i x.toNatClampNeg v.toInt8.toInt32) Q) : EV d M pc ls (vI v :: vI x :: vR k i :: st) σ Q := by
  intro E p l e s0 m args below meth c H locs lr he hR hS hL
  obtain ⟨a1, a2, a3, a4⟩ := arr_of hR he.2.2.2.2.2.2.2.2 hk hi ha (by omega)
  refine W.bast he.1 he.2.1 a1 a2 a3 (by rw [a4]; exact hin) rfl rfl h (fun H' e1 e2 e3 => ?_)
  rw [arrV_store] at e1
  have hR' : Rep E (up σ k i x.toNatClampNeg v.toInt8.toInt32) H' := hR.setA he.2.2.2.2.2.2.2.1 hk hi ha hno (v := vI v.toInt8.toInt32) e1 e3 (fun k' i' s' _ _ => gv_up hz k' i' s')
  exact kk E p l e s0 m args below meth c H' _ lr he hR' (hS.put e2 e3 ⟨k, i, hk, hi, rfl⟩) hL
theorem EV.sast {k i n : Nat} {x v : Int32} (h : decode M.2.1 pc = .ok (.sastore, 1)) (hk : k < sh_NK) (ha : sh_arr k = some (2, n)) (hno : sh_obj k = none) (hi : i < sh_cnt k) (hin : vp_in x n) (hz : intS k i x.toNatClampNeg = true) (kk : EV d M (pc + 1) ls st (up σ k i x.toNatClampNeg v.toInt16.toInt32) Q) : EV d M pc ls (vI v :: vI x :: vR k i :: st) σ Q := by
  intro E p l e s0 m args below meth c H locs lr he hR hS hL
  obtain ⟨a1, a2, a3, a4⟩ := arr_of hR he.2.2.2.2.2.2.2.2 hk hi ha (by omega)
  refine W.sast he.1 he.2.1 a1 a2 a3 (by rw [a4]; exact hin) rfl rfl h (fun H' e1 e2 e3 => ?_)
  rw [arrV_store] at e1
  have hR' : Rep E (up σ k i x.toNatClampNeg v.toInt16.toInt32) H' := hR.setA he.2.2.2.2.2.2.2.1 hk hi ha hno (v := vI v.toInt16.toInt32) e1 e3 (fun k' i' s' _ _ => gv_up hz k' i' s')
  exact kk E p l e s0 m args below meth c H' _ lr he hR' (hS.put e2 e3 ⟨k, i, hk, hi, rfl⟩) hL
end EVH
/-! calls -/
section CAL
variable {p : Program} {l : Launch} {e : Env} {R : Room} {s : State} {m : MethodId} {args : Array Value} {below : List Frame} {meth : Method} {c : Code} {H : Heap} {locs : List Loc} {cells slots : Nat} {Z : State → Prop} {E : EE} {lr : Array Slot} {pc : Nat}
theorem run_go {Q : Option AV → HS → Prop} {stk rest : List Value} {a : Array Value} (hr : va_Run p l e R s m args below meth c H locs cells slots 0 0 (F0 m pc lr stk) rest (QC E Q a) (Reg E)) {A0 : Nat → Prop} {H0 : Heap} (hS : va_S A0 H0 H locs) (hA : ∀ q, Reg E q → A0 q)
    (kk : ∀ (rv : Option AV) (σ : HS) (H1 : Heap) (locs1 : List Loc), Q rv σ → Rep E σ H1 → va_S A0 H0 H1 locs1 → (∀ q : Nat, q < H.size → ¬ Reg E q → H1[q]? = H[q]?) → H.size ≤ H1.size → W p l e R s m args below meth c H1 locs1 cells slots Z (F0 m (pc + 3) lr (rv.toList.map (tv E) ++ rest))) : W p l e R s m args below meth c H locs cells slots Z (F0 m pc lr stk) := by
  intro T hT X
  obtain ⟨v, st₀, t, T', L, h0, X', hL, e1, e2, ⟨⟨rv, σ, hv, hq, hRep, hKK⟩, hz, hk⟩, st⟩ := hr T hT X
  cases hv
  rw [h0] at hz hk
  obtain ⟨t2, a1, b1⟩ := kk rv σ T'.heap (locs ++ L) hq (by rw [e1]; exact hRep)
    ⟨Nat.le_trans hS.1 (by rw [e1]; exact hz), fun q h1 h2 => by rw [e1, hk q (Nat.lt_of_lt_of_le h1 hS.1) (fun z => h2 (hA q z))]; exact hS.2.1 q h1 h2, fun q hq => by
      rcases List.mem_append.mp hq with h | h
      · exact hS.2.2 q h
      · exact hA _ (hL q h)⟩ (fun q h1 h2 => by rw [e1]; exact hk q h1 h2) (by rw [e1]; exact hz) T' rfl X'
  refine ⟨t2, st t2 ?_, b1⟩
  have : (rv.map (tv E)).toList = rv.toList.map (tv E) := by cases rv <;> rfl
  rw [this]
  exact a1
theorem blind {E : EE} {σ : HS} {vs : List Value} : FrameBlind (va_Pc vs (fun U => Rep E σ U.heap ∧ KK E U U.heap)) := fun a U g mk h => ⟨h.1, h.2.1, h.2.2.same rfl⟩
theorem ML0.base {M' : MI} {n d : Nat} (h : ML0 M' n) (hd : 1 ≤ d) (hts : ∀ w ∈ WALL, w.before args s = true) (hRf : d ≤ R.frames) (hRl : d * 64 ≤ R.locals) :
    ((rmD (d - 1)).cells = 0 ∧ (rmD (d - 1)).slots = 0 ∧ (rmD (d - 1)).frames + 1 ≤ R.frames ∧ 8 + (M'.2.2.1 + 11) + (rmD (d - 1)).locals ≤ R.locals ∧ (∀ w ∈ Cond.code M'.1 M'.2.1 M'.2.2.1 M'.2.2.2 :: WALL, ∀ (a' : Array Value) (U : State), s.WarmedH U.vm → w.before a' U = true) ∧ Cond.code M'.1 M'.2.1 M'.2.2.1 M'.2.2.2 ∈ Cond.code M'.1 M'.2.1 M'.2.2.1 M'.2.2.2 :: WALL) ∧
    (Cond.code M'.1 M'.2.1 M'.2.2.1 M'.2.2.2).before args s = true ∧ (Cond.initialized M'.1.cls).before args s = true ∧ (M'.1.cls ≠ "java/lang/invoke/MethodHandle" ∧ M'.1.cls ≠ "java/lang/invoke/VarHandle") ∧ (∀ sig, parseMethodDescriptor M'.1.desc = some sig → n = sig.parameters.length) := by
  obtain ⟨h1, h2, ⟨h3, h4, h5⟩, h6, h7⟩ := h
  refine ⟨⟨rfl, rfl, ?_, ?_, pay_in hts (fun w hw => ?_), List.mem_cons_self⟩, hts _ h1, hts _ h2, ⟨h3, h4⟩, fun sig hs => ?_⟩
  · show d - 1 + 1 ≤ _; omega
  · show 8 + (M'.2.2.1 + 11) + (d - 1) * 64 ≤ _; omega
  · rcases List.mem_cons.mp hw with rfl | hw
    · exact ⟨h1, WALL_good h1⟩
    · exact ⟨hw, WALL_good hw⟩
  · rw [hs] at h5
    exact (Option.some.inj h5).symm
/-- a call of an instance method, at the machine's level: any caller -/
theorem W_callV {cc : ByteArray} {nL d idx n k i ci : Nat} {own : String} {M' : MI} {As : List AV} {σ : HS} {Q : Option AV → HS → Prop} {r : vw_C} {rest : List Value} (hx : p.tables.exec = Jvm.exec) (hb : c.code = cc) (hml : c.maxLocals = nL) (hown : s.vm.findClass own = some m.cls) (hts : ∀ w ∈ WALL, w.before args s = true) (hI : Inj E) (hK : KK E s H) (hR : Rep E σ H)
    (hd : 1 ≤ d) (hRf : d ≤ R.frames) (hRl : d * 64 ≤ R.locals) (hm : MLV own idx M' n) (hn : As.length = n) (hln : (entS (vR k i :: As)).length ≤ M'.2.2.1) (hk : k < sh_NK) (hi : i < sh_cnt k) (ho : sh_obj k = some ci) (hr : vwCl[ci]? = some r) (hcl : r.1 = M'.1.cls) (hMT : MT (d - 1) M' (vR k i :: As) σ Q)
    (hsz : lr.size = nL) (hrest : (rest.map fun v => v.category).sum ≤ 8) (hdg : decode cc pc = .ok (.invokevirtual idx, 3)) (hc : cells ≤ R.cells) (hs : slots ≤ R.slots) {A0 : Nat → Prop} {H0 : Heap} (hS : va_S A0 H0 H locs) (hA : ∀ q, Reg E q → A0 q)
    (kk : ∀ (rv : Option AV) (σ : HS) (H1 : Heap) (locs1 : List Loc), Q rv σ → Rep E σ H1 → va_S A0 H0 H1 locs1 → (∀ q : Nat, q < H.size → ¬ Reg E q → H1[q]? = H[q]?) → H.size ≤ H1.size → W p l e R s m args below meth c H1 locs1 cells slots Z (F0 m (pc + 3) lr (rv.toList.map (tv E) ++ rest))) :
    W p l e R s m args below meth c H locs cells slots Z (F0 m pc lr ((As.map (tv E)).reverse ++ .ref (E.2.2 k i) :: rest)) := by
  obtain ⟨h0, hl, hin, hse⟩ := hm
  obtain ⟨b1, b2, b3, b4, b5⟩ := h0.base (R := R) hd hts hRf hRl
  obtain ⟨cell, q1, q2, q3, q4⟩ := (hR k i hk hi).1 ci r ho hr
  have hfc : s.vm.findClass M'.1.cls = some cell.cls := by rw [q2, ← hcl]; exact (hK.1 ci r hr).2.1
  refine run_go (Q := Q) (rest := rest) (va_runV (Ts := WALL) (C := M'.1.cls) (bytes := M'.2.1) (maxL := M'.2.2.1) (ret := M'.2.2.2) ⟨hx, hb, hml, hown, hts⟩ (hMT.met h0.2.2.2.1 hln E hI l) ⟨⟨b1.1, b1.2.1, b1.2.2.1, b1.2.2.2.1, b1.2.2.2.2.1, b1.2.2.2.2.2, b2, b3, b4, b5, hts _ hl⟩, hts _ hin, hts _ hse⟩
    ⟨blind, ⟨cell, q1, by rw [q3]; rfl, hfc⟩, fun U hU hW => ⟨rfl, by rw [hU]; exact hR, by rw [hU]; exact hK.go hW (fun _ _ _ => rfl)⟩⟩ rfl (by rw [List.length_map]; exact hn) hsz rfl (lv_room hrest) hdg ⟨hc, hs⟩) hS hA kk
theorem W_callS {cc : ByteArray} {nL d idx n : Nat} {own : String} {M' : MI} {As : List AV} {σ : HS} {Q : Option AV → HS → Prop} {rest : List Value} (hx : p.tables.exec = Jvm.exec) (hb : c.code = cc) (hml : c.maxLocals = nL) (hown : s.vm.findClass own = some m.cls) (hts : ∀ w ∈ WALL, w.before args s = true) (hI : Inj E) (hK : KK E s H) (hR : Rep E σ H)
    (hd : 1 ≤ d) (hRf : d ≤ R.frames) (hRl : d * 64 ≤ R.locals) (hm : MLS own idx M' n) (hn : As.length = n) (hln : (entS As).length ≤ M'.2.2.1) (hMT : MT (d - 1) M' As σ Q)
    (hsz : lr.size = nL) (hrest : (rest.map fun v => v.category).sum ≤ 8) (hdg : decode cc pc = .ok (.invokestatic idx, 3)) (hc : cells ≤ R.cells) (hs : slots ≤ R.slots) {A0 : Nat → Prop} {H0 : Heap} (hS : va_S A0 H0 H locs) (hA : ∀ q, Reg E q → A0 q)
    (kk : ∀ (rv : Option AV) (σ : HS) (H1 : Heap) (locs1 : List Loc), Q rv σ → Rep E σ H1 → va_S A0 H0 H1 locs1 → (∀ q : Nat, q < H.size → ¬ Reg E q → H1[q]? = H[q]?) → H.size ≤ H1.size → W p l e R s m args below meth c H1 locs1 cells slots Z (F0 m (pc + 3) lr (rv.toList.map (tv E) ++ rest))) :
    W p l e R s m args below meth c H locs cells slots Z (F0 m pc lr ((As.map (tv E)).reverse ++ rest)) := by
  obtain ⟨h0, hst, hl⟩ := hm
  obtain ⟨b1, b2, b3, b4, b5⟩ := h0.base (R := R) hd hts hRf hRl
  have hpre : PreS s H (va_Pc (As.map (tv E)) (fun U => Rep E σ U.heap ∧ KK E U U.heap)) (As.map (tv E)) := ⟨blind, fun U hU hW => ⟨rfl, by rw [hU]; exact hR, by rw [hU]; exact hK.go hW (fun _ _ _ => rfl)⟩⟩
  rcases hl with hl | ⟨host, hl⟩
  · exact run_go (Q := Q) (rest := rest) (va_runS (Ts := WALL) (bytes := M'.2.1) (maxL := M'.2.2.1) (ret := M'.2.2.2) ⟨hx, hb, hml, hown, hts⟩ (hMT.met h0.2.2.2.1 hln E hI l) ⟨⟨b1.1, b1.2.1, b1.2.2.1, b1.2.2.2.1, b1.2.2.2.2.1, b1.2.2.2.2.2, b2, b3, b4, b5, hts _ hl⟩, hts _ hst⟩ hpre rfl (by rw [List.length_map]; exact hn) hsz rfl (lv_room hrest) hdg ⟨hc, hs⟩) hS hA kk
  · have hnw := hK.2.2.1 _ hl
    exact run_go (Q := Q) (rest := rest) (va_runSN (Ts := WALL) (bytes := M'.2.1) (maxL := M'.2.2.1) (ret := M'.2.2.2) (host := host) ⟨hx, hb, hml, hown, hts⟩ (hMT.met h0.2.2.2.1 hln E hI l) ⟨⟨b1, b2, b3, b4, b5, va_Nw.use rfl hnw⟩, hts _ hst, trivial⟩ hpre rfl (by rw [List.length_map]; exact hn) hsz rfl (lv_room hrest) hdg ⟨hc, hs⟩) hS hA kk
end CAL
section EVC
variable {d : Nat} {M : MI} {pc : Nat} {ls : List (Option AV)} {st : List AV} {σ : HS} {Q : Option AV → HS → Prop}
theorem EV.callV {idx n k i ci : Nat} {r : vw_C} {M' : MI} {As st' : List AV} {Q' : Option AV → HS → Prop} (h : decode M.2.1 pc = .ok (.invokevirtual idx, 3)) (hd : 1 ≤ d) (hm : MLV M.1.cls idx M' n) (hn : As.length = n) (hln : (entS (vR k i :: As)).length ≤ M'.2.2.1) (hk : k < sh_NK) (hi : i < sh_cnt k) (ho : sh_obj k = some ci) (hr : vwCl[ci]? = some r) (hcl : r.1 = M'.1.cls) (hrest : (st.map catA).sum ≤ 8) (hst : st' = As.reverse ++ vR k i :: st)
    (hMT : MT (d - 1) M' (vR k i :: As) σ Q') (kk : ∀ (rv : Option AV) (σ' : HS), Q' rv σ' → EV d M (pc + 3) ls (rv.toList ++ st) σ' Q) : EV d M pc ls st' σ Q := by
  subst hst
  intro E p l e s m args below meth c H locs lr he hR hS hL
  have he0 := he
  obtain ⟨hx, hb, hml, hret, hown, hts, hlocks, hI, hK⟩ := he
  have hKH : KK E s H := hK.go (State.WarmedH.refl s) hS.2.1
  have e1 : (As.reverse ++ vR k i :: st).map (tv E) = (As.map (tv E)).reverse ++ .ref (E.2.2 k i) :: st.map (tv E) := by rw [List.map_append, List.map_reverse]; rfl
  rw [e1]
  refine W_callV hx hb hml hown hts hI hKH hR hd (Nat.le_refl _) (Nat.le_refl _) hm hn hln hk hi ho hr hcl hMT hL.1 (by rw [tv_cats]; exact hrest) h (Nat.le_refl _) (Nat.le_refl _) hS (fun _ h => h) (fun rv σ' H1 locs1 hq hR1 hS1 _ _ => ?_)
  have := kk rv σ' hq E p l e s m args below meth c H1 locs1 lr he0 hR1 hS1 hL
  rwa [List.map_append] at this
theorem EV.callS {idx n : Nat} {M' : MI} {As st' : List AV} {Q' : Option AV → HS → Prop} (h : decode M.2.1 pc = .ok (.invokestatic idx, 3)) (hd : 1 ≤ d) (hm : MLS M.1.cls idx M' n) (hn : As.length = n) (hln : (entS As).length ≤ M'.2.2.1) (hrest : (st.map catA).sum ≤ 8) (hst : st' = As.reverse ++ st)
    (hMT : MT (d - 1) M' As σ Q') (kk : ∀ (rv : Option AV) (σ' : HS), Q' rv σ' → EV d M (pc + 3) ls (rv.toList ++ st) σ' Q) : EV d M pc ls st' σ Q := by
  subst hst
  intro E p l e s m args below meth c H locs lr he hR hS hL
  have he0 := he
  obtain ⟨hx, hb, hml, hret, hown, hts, hlocks, hI, hK⟩ := he
  have hKH : KK E s H := hK.go (State.WarmedH.refl s) hS.2.1
  have e1 : (As.reverse ++ st).map (tv E) = (As.map (tv E)).reverse ++ st.map (tv E) := by rw [List.map_append, List.map_reverse]
  rw [e1]
  refine W_callS hx hb hml hown hts hI hKH hR hd (Nat.le_refl _) (Nat.le_refl _) hm hn hln hMT hL.1 (by rw [tv_cats]; exact hrest) h (Nat.le_refl _) (Nat.le_refl _) hS (fun _ h => h) (fun rv σ' H1 locs1 hq hR1 hS1 _ _ => ?_)
  have := kk rv σ' hq E p l e s m args below meth c H1 locs1 lr he0 hR1 hS1 hL
  rwa [List.map_append] at this
end EVC
