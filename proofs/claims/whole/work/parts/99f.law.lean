/-! the law: its cases -/
def LWe (E : EE) (b L : Nat) (xs : Nat → Int32) (p : Program) (s : State) (m : MethodId) (args : Array Value) (c : Code) : Prop :=
  p.tables.exec = Jvm.exec ∧ c.code = code ∧ c.maxLocals = 4 ∧ s.vm.findClass RL = some m.cls ∧ (∀ w ∈ WALL, w.before args s = true) ∧ Inj E ∧ KK E s s.heap ∧ va_X b L xs s s.heap ∧ b < s.heap.size ∧ (∀ q, Reg E q → s.heap.size ≤ q) ∧ L ≤ 3072
section LAWC
variable {p : Program} {l : Launch} {e : Env} {s : State} {m : MethodId} {args : Array Value} {below : List Frame} {meth : Method} {c : Code} {H : Heap} {locs : List Loc} {cells slots : Nat} {Z : State → Prop} {E : EE} {b L n : Nat} {xs : Nat → Int32} {lr : Array Slot} {pc : Nat} {rest : List Value} {σ : HS}
theorem LWe.kk (he : LWe E b L xs p s m args c) (hS : va_S (fun q => s.heap.size ≤ q) s.heap H locs) : KK E s H := he.2.2.2.2.2.2.1.go (State.WarmedH.refl s) (fun a h1 _ => hS.2.1 a h1 (fun h => by have : s.heap.size ≤ a := h; omega))
/-- an int of the script -/
theorem L_arg {k : Nat} {z : Int} (he : LWe E b L xs p s m args c) (hS : va_S (fun q => s.heap.size ≤ q) s.heap H locs) (hL : lv_has lr 4 [(3, .int (nI n)), (2, .ref (E.2.2 0 0)), (1, .ref (E.2.2 1 0)), (0, .ref b)]) (hn : n + 6 ≤ L) (hk : k ≤ 5) (hz : Int32.ofInt z = nI k) (h0 : decode code pc = .ok (.aload_n 0, 1)) (h1 : decode code (pc + 1) = .ok (.iload_n 3, 1)) (h2 : decode code (pc + 2) = .ok (.iconst z, 1)) (h3 : decode code (pc + 3) = .ok (.iadd, 1)) (h4 : decode code (pc + 4) = .ok (.iaload, 1))
    (kk : W p l e room_1 s m args below meth c H locs cells slots Z (F0 m (pc + 5) lr (.int (xs (n + k)) :: rest))) : W p l e room_1 s m args below meth c H locs cells slots Z (F0 m pc lr rest) := by
  obtain ⟨hx, hb, hml, hown, hts, hI, hK, hX, hbl, hReg, hL3⟩ := he
  refine lv_aload_n hx hb h0 rfl (lv_at hL 3 rfl) ?_
  refine lv_iload_n hx hb h1 rfl (lv_at hL 0 rfl) ?_
  refine lv_iconst hx hb h2 hz ?_
  refine lv_iadd hx hb h3 ?_
  rw [nI_add]
  refine va_sld hx hb hX hbl (fun z => by have : s.heap.size ≤ b := z; omega) hS (nI_in (c := n + k) (N := L) (by omega) (by omega)) h4 ?_
  rw [nI_clamp (by omega)]
  exact kk
theorem cs_town (he : LWe E b L xs p s m args c) (hS : va_S (fun q => s.heap.size ≤ q) s.heap H locs) (hL : lv_has lr 4 [(3, .int (nI n)), (2, .ref (E.2.2 0 0)), (1, .ref (E.2.2 1 0)), (0, .ref b)]) (hn : n + 6 ≤ L) (hi : Inv σ) (hR : Rep E σ H)
    (kk : ∀ (σ2 : HS) (H2 : Heap) (locs2 : List Loc), Inv σ2 → Rep E σ2 H2 → va_S (fun q => s.heap.size ≤ q) s.heap H2 locs2 → W p l e room_1 s m args below meth c H2 locs2 164 26813 Z (F0 m 956 lr [])) : W p l e room_1 s m args below meth c H locs 164 26813 Z (F0 m 144 lr []) := by
  have he0 := he
  obtain ⟨hx, hb, hml, hown, hts, hI, hK, hX, hbl, hReg, hL3⟩ := he
  refine lv_aload_n hx hb dL_law_144 rfl (lv_at hL 2 rfl) ?_
  refine L_arg (k := 1) he0 hS hL hn (by decide) rfl dL_law_145 dL_law_146 dL_law_147 dL_law_148 dL_law_149 ?_
  refine L_arg (k := 2) he0 hS hL hn (by decide) rfl dL_law_150 dL_law_151 dL_law_152 dL_law_153 dL_law_154 ?_
  refine L_arg (k := 3) he0 hS hL hn (by decide) rfl dL_law_155 dL_law_156 dL_law_157 dL_law_158 dL_law_159 ?_
  refine W_callV (cc := code) (nL := 4) (d := 61) (k := 1) (i := 0) (As := [vI (xs (n + 1)), vI (xs (n + 2)), vI (xs (n + 3))]) (rest := []) hx hb hml hown hts hI (he0.kk hS) hR (by decide) (by decide) (by decide) ml_L_13 rfl (Nat.le_of_ble_eq_true rfl) (by decide) (by decide) rfl cl_10.1 rfl (st_town _ _ _ σ hi) hL.1 (by decide) dL_law_160 (by decide) (by decide) hS hReg (fun rv σ1 H1 locs1 hq hR1 hS1 _ _ => ?_)
  obtain ⟨x, rfl, hMT2⟩ := hq
  show W p l e room_1 s m args below meth c H1 locs1 164 26813 Z (F0 m 163 lr [.int x])
  refine lv_aload_n hx hb dL_law_163 rfl (lv_at hL 1 rfl) ?_
  refine L_arg (k := 1) he0 hS1 hL hn (by decide) rfl dL_law_164 dL_law_165 dL_law_166 dL_law_167 dL_law_168 ?_
  refine L_arg (k := 2) he0 hS1 hL hn (by decide) rfl dL_law_169 dL_law_170 dL_law_171 dL_law_172 dL_law_173 ?_
  refine L_arg (k := 3) he0 hS1 hL hn (by decide) rfl dL_law_174 dL_law_175 dL_law_176 dL_law_177 dL_law_178 ?_
  refine W_callV (cc := code) (nL := 4) (d := 61) (k := 0) (i := 0) (As := [vI (xs (n + 1)), vI (xs (n + 2)), vI (xs (n + 3))]) (rest := [.int x]) hx hb hml hown hts hI (he0.kk hS1) hR1 (by decide) (by decide) (by decide) ml_L_17 rfl (Nat.le_of_ble_eq_true rfl) (by decide) (by decide) rfl cl_11.1 rfl hMT2 hL.1 (by show 1 ≤ 8; decide) dL_law_179 (by decide) (by decide) hS1 hReg (fun rv2 σ2 H2 locs2 hq2 hR2 hS2 _ _ => ?_)
  obtain ⟨rfl, hi2⟩ := hq2
  show W p l e room_1 s m args below meth c H2 locs2 164 26813 Z (F0 m 182 lr [.int x, .int x])
  exact lv_icmp_eq hx hb dL_law_182 (tgt := 956) rfl (fun _ => kk σ2 H2 locs2 hi2 hR2 hS2) (fun z => absurd rfl z)
theorem cs_way (he : LWe E b L xs p s m args c) (hS : va_S (fun q => s.heap.size ≤ q) s.heap H locs) (hL : lv_has lr 4 [(3, .int (nI n)), (2, .ref (E.2.2 0 0)), (1, .ref (E.2.2 1 0)), (0, .ref b)]) (hn : n + 6 ≤ L) (hi : Inv σ) (hR : Rep E σ H)
    (kk : ∀ (σ2 : HS) (H2 : Heap) (locs2 : List Loc), Inv σ2 → Rep E σ2 H2 → va_S (fun q => s.heap.size ≤ q) s.heap H2 locs2 → W p l e room_1 s m args below meth c H2 locs2 164 26813 Z (F0 m 956 lr [])) : W p l e room_1 s m args below meth c H locs 164 26813 Z (F0 m 187 lr []) := by
  have he0 := he
  obtain ⟨hx, hb, hml, hown, hts, hI, hK, hX, hbl, hReg, hL3⟩ := he
  refine lv_aload_n hx hb dL_law_187 rfl (lv_at hL 2 rfl) ?_
  refine L_arg (k := 1) he0 hS hL hn (by decide) rfl dL_law_188 dL_law_189 dL_law_190 dL_law_191 dL_law_192 ?_
  refine L_arg (k := 2) he0 hS hL hn (by decide) rfl dL_law_193 dL_law_194 dL_law_195 dL_law_196 dL_law_197 ?_
  refine L_arg (k := 3) he0 hS hL hn (by decide) rfl dL_law_198 dL_law_199 dL_law_200 dL_law_201 dL_law_202 ?_
  refine W_callV (cc := code) (nL := 4) (d := 61) (k := 1) (i := 0) (As := [vI (xs (n + 1)), vI (xs (n + 2)), vI (xs (n + 3))]) (rest := []) hx hb hml hown hts hI (he0.kk hS) hR (by decide) (by decide) (by decide) ml_L_18 rfl (Nat.le_of_ble_eq_true rfl) (by decide) (by decide) rfl cl_10.1 rfl (st_way _ _ _ σ hi) hL.1 (by decide) dL_law_203 (by decide) (by decide) hS hReg (fun rv σ1 H1 locs1 hq hR1 hS1 _ _ => ?_)
  obtain ⟨x, rfl, hMT2⟩ := hq
  show W p l e room_1 s m args below meth c H1 locs1 164 26813 Z (F0 m 206 lr [.int x])
  refine lv_aload_n hx hb dL_law_206 rfl (lv_at hL 1 rfl) ?_
  refine L_arg (k := 1) he0 hS1 hL hn (by decide) rfl dL_law_207 dL_law_208 dL_law_209 dL_law_210 dL_law_211 ?_
  refine L_arg (k := 2) he0 hS1 hL hn (by decide) rfl dL_law_212 dL_law_213 dL_law_214 dL_law_215 dL_law_216 ?_
  refine L_arg (k := 3) he0 hS1 hL hn (by decide) rfl dL_law_217 dL_law_218 dL_law_219 dL_law_220 dL_law_221 ?_
  refine W_callV (cc := code) (nL := 4) (d := 61) (k := 0) (i := 0) (As := [vI (xs (n + 1)), vI (xs (n + 2)), vI (xs (n + 3))]) (rest := [.int x]) hx hb hml hown hts hI (he0.kk hS1) hR1 (by decide) (by decide) (by decide) ml_L_22 rfl (Nat.le_of_ble_eq_true rfl) (by decide) (by decide) rfl cl_11.1 rfl hMT2 hL.1 (by show 1 ≤ 8; decide) dL_law_222 (by decide) (by decide) hS1 hReg (fun rv2 σ2 H2 locs2 hq2 hR2 hS2 _ _ => ?_)
  obtain ⟨rfl, hi2⟩ := hq2
  show W p l e room_1 s m args below meth c H2 locs2 164 26813 Z (F0 m 225 lr [.int x, .int x])
  exact lv_icmp_eq hx hb dL_law_225 (tgt := 956) rfl (fun _ => kk σ2 H2 locs2 hi2 hR2 hS2) (fun z => absurd rfl z)
theorem cs_keeps (he : LWe E b L xs p s m args c) (hS : va_S (fun q => s.heap.size ≤ q) s.heap H locs) (hL : lv_has lr 4 [(3, .int (nI n)), (2, .ref (E.2.2 0 0)), (1, .ref (E.2.2 1 0)), (0, .ref b)]) (hn : n + 6 ≤ L) (hi : Inv σ) (hR : Rep E σ H)
    (kk : ∀ (σ2 : HS) (H2 : Heap) (locs2 : List Loc), Inv σ2 → Rep E σ2 H2 → va_S (fun q => s.heap.size ≤ q) s.heap H2 locs2 → W p l e room_1 s m args below meth c H2 locs2 164 26813 Z (F0 m 956 lr [])) : W p l e room_1 s m args below meth c H locs 164 26813 Z (F0 m 230 lr []) := by
  have he0 := he
  obtain ⟨hx, hb, hml, hown, hts, hI, hK, hX, hbl, hReg, hL3⟩ := he
  refine lv_aload_n hx hb dL_law_230 rfl (lv_at hL 2 rfl) ?_
  refine L_arg (k := 1) he0 hS hL hn (by decide) rfl dL_law_231 dL_law_232 dL_law_233 dL_law_234 dL_law_235 ?_
  refine L_arg (k := 2) he0 hS hL hn (by decide) rfl dL_law_236 dL_law_237 dL_law_238 dL_law_239 dL_law_240 ?_
  refine W_callV (cc := code) (nL := 4) (d := 61) (k := 1) (i := 0) (As := [vI (xs (n + 1)), vI (xs (n + 2))]) (rest := []) hx hb hml hown hts hI (he0.kk hS) hR (by decide) (by decide) (by decide) ml_L_23 rfl (Nat.le_of_ble_eq_true rfl) (by decide) (by decide) rfl cl_10.1 rfl (st_keeps _ _ σ hi) hL.1 (by decide) dL_law_241 (by decide) (by decide) hS hReg (fun rv σ1 H1 locs1 hq hR1 hS1 _ _ => ?_)
  obtain ⟨x, rfl, hMT2⟩ := hq
  show W p l e room_1 s m args below meth c H1 locs1 164 26813 Z (F0 m 244 lr [.int x])
  refine lv_aload_n hx hb dL_law_244 rfl (lv_at hL 1 rfl) ?_
  refine L_arg (k := 1) he0 hS1 hL hn (by decide) rfl dL_law_245 dL_law_246 dL_law_247 dL_law_248 dL_law_249 ?_
  refine L_arg (k := 2) he0 hS1 hL hn (by decide) rfl dL_law_250 dL_law_251 dL_law_252 dL_law_253 dL_law_254 ?_
  refine W_callV (cc := code) (nL := 4) (d := 61) (k := 0) (i := 0) (As := [vI (xs (n + 1)), vI (xs (n + 2))]) (rest := [.int x]) hx hb hml hown hts hI (he0.kk hS1) hR1 (by decide) (by decide) (by decide) ml_L_27 rfl (Nat.le_of_ble_eq_true rfl) (by decide) (by decide) rfl cl_11.1 rfl hMT2 hL.1 (by show 1 ≤ 8; decide) dL_law_255 (by decide) (by decide) hS1 hReg (fun rv2 σ2 H2 locs2 hq2 hR2 hS2 _ _ => ?_)
  obtain ⟨rfl, hi2⟩ := hq2
  show W p l e room_1 s m args below meth c H2 locs2 164 26813 Z (F0 m 258 lr [.int x, .int x])
  exact lv_icmp_eq hx hb dL_law_258 (tgt := 956) rfl (fun _ => kk σ2 H2 locs2 hi2 hR2 hS2) (fun z => absurd rfl z)
theorem cs_put (he : LWe E b L xs p s m args c) (hS : va_S (fun q => s.heap.size ≤ q) s.heap H locs) (hL : lv_has lr 4 [(3, .int (nI n)), (2, .ref (E.2.2 0 0)), (1, .ref (E.2.2 1 0)), (0, .ref b)]) (hn : n + 6 ≤ L) (hi : Inv σ) (hR : Rep E σ H)
    (kk : ∀ (σ2 : HS) (H2 : Heap) (locs2 : List Loc), Inv σ2 → Rep E σ2 H2 → va_S (fun q => s.heap.size ≤ q) s.heap H2 locs2 → W p l e room_1 s m args below meth c H2 locs2 164 26813 Z (F0 m 956 lr [])) : W p l e room_1 s m args below meth c H locs 164 26813 Z (F0 m 263 lr []) := by
  have he0 := he
  obtain ⟨hx, hb, hml, hown, hts, hI, hK, hX, hbl, hReg, hL3⟩ := he
  refine lv_aload_n hx hb dL_law_263 rfl (lv_at hL 2 rfl) ?_
  refine L_arg (k := 1) he0 hS hL hn (by decide) rfl dL_law_264 dL_law_265 dL_law_266 dL_law_267 dL_law_268 ?_
  refine L_arg (k := 2) he0 hS hL hn (by decide) rfl dL_law_269 dL_law_270 dL_law_271 dL_law_272 dL_law_273 ?_
  refine L_arg (k := 3) he0 hS hL hn (by decide) rfl dL_law_274 dL_law_275 dL_law_276 dL_law_277 dL_law_278 ?_
  refine L_arg (k := 4) he0 hS hL hn (by decide) rfl dL_law_279 dL_law_280 dL_law_281 dL_law_282 dL_law_283 ?_
  refine W_callV (cc := code) (nL := 4) (d := 61) (k := 1) (i := 0) (As := [vI (xs (n + 1)), vI (xs (n + 2)), vI (xs (n + 3)), vI (xs (n + 4))]) (rest := []) hx hb hml hown hts hI (he0.kk hS) hR (by decide) (by decide) (by decide) ml_L_28 rfl (Nat.le_of_ble_eq_true rfl) (by decide) (by decide) rfl cl_10.1 rfl (st_put _ _ _ _ σ hi) hL.1 (by decide) dL_law_284 (by decide) (by decide) hS hReg (fun rv σ1 H1 locs1 hq hR1 hS1 _ _ => ?_)
  obtain ⟨x, rfl, hMT2⟩ := hq
  show W p l e room_1 s m args below meth c H1 locs1 164 26813 Z (F0 m 287 lr [.int x])
  refine lv_aload_n hx hb dL_law_287 rfl (lv_at hL 1 rfl) ?_
  refine L_arg (k := 1) he0 hS1 hL hn (by decide) rfl dL_law_288 dL_law_289 dL_law_290 dL_law_291 dL_law_292 ?_
  refine L_arg (k := 2) he0 hS1 hL hn (by decide) rfl dL_law_293 dL_law_294 dL_law_295 dL_law_296 dL_law_297 ?_
  refine L_arg (k := 3) he0 hS1 hL hn (by decide) rfl dL_law_298 dL_law_299 dL_law_300 dL_law_301 dL_law_302 ?_
  refine L_arg (k := 4) he0 hS1 hL hn (by decide) rfl dL_law_303 dL_law_304 dL_law_305 dL_law_306 dL_law_307 ?_
  refine W_callV (cc := code) (nL := 4) (d := 61) (k := 0) (i := 0) (As := [vI (xs (n + 1)), vI (xs (n + 2)), vI (xs (n + 3)), vI (xs (n + 4))]) (rest := [.int x]) hx hb hml hown hts hI (he0.kk hS1) hR1 (by decide) (by decide) (by decide) ml_L_32 rfl (Nat.le_of_ble_eq_true rfl) (by decide) (by decide) rfl cl_11.1 rfl hMT2 hL.1 (by show 1 ≤ 8; decide) dL_law_308 (by decide) (by decide) hS1 hReg (fun rv2 σ2 H2 locs2 hq2 hR2 hS2 _ _ => ?_)
  obtain ⟨rfl, hi2⟩ := hq2
  show W p l e room_1 s m args below meth c H2 locs2 164 26813 Z (F0 m 311 lr [.int x, .int x])
  exact lv_icmp_eq hx hb dL_law_311 (tgt := 956) rfl (fun _ => kk σ2 H2 locs2 hi2 hR2 hS2) (fun z => absurd rfl z)
theorem cs_take (he : LWe E b L xs p s m args c) (hS : va_S (fun q => s.heap.size ≤ q) s.heap H locs) (hL : lv_has lr 4 [(3, .int (nI n)), (2, .ref (E.2.2 0 0)), (1, .ref (E.2.2 1 0)), (0, .ref b)]) (hn : n + 6 ≤ L) (hi : Inv σ) (hR : Rep E σ H)
    (kk : ∀ (σ2 : HS) (H2 : Heap) (locs2 : List Loc), Inv σ2 → Rep E σ2 H2 → va_S (fun q => s.heap.size ≤ q) s.heap H2 locs2 → W p l e room_1 s m args below meth c H2 locs2 164 26813 Z (F0 m 956 lr [])) : W p l e room_1 s m args below meth c H locs 164 26813 Z (F0 m 316 lr []) := by
  have he0 := he
  obtain ⟨hx, hb, hml, hown, hts, hI, hK, hX, hbl, hReg, hL3⟩ := he
  refine lv_aload_n hx hb dL_law_316 rfl (lv_at hL 2 rfl) ?_
  refine L_arg (k := 1) he0 hS hL hn (by decide) rfl dL_law_317 dL_law_318 dL_law_319 dL_law_320 dL_law_321 ?_
  refine L_arg (k := 2) he0 hS hL hn (by decide) rfl dL_law_322 dL_law_323 dL_law_324 dL_law_325 dL_law_326 ?_
  refine L_arg (k := 3) he0 hS hL hn (by decide) rfl dL_law_327 dL_law_328 dL_law_329 dL_law_330 dL_law_331 ?_
  refine W_callV (cc := code) (nL := 4) (d := 61) (k := 1) (i := 0) (As := [vI (xs (n + 1)), vI (xs (n + 2)), vI (xs (n + 3))]) (rest := []) hx hb hml hown hts hI (he0.kk hS) hR (by decide) (by decide) (by decide) ml_L_33 rfl (Nat.le_of_ble_eq_true rfl) (by decide) (by decide) rfl cl_10.1 rfl (st_take _ _ _ σ hi) hL.1 (by decide) dL_law_332 (by decide) (by decide) hS hReg (fun rv σ1 H1 locs1 hq hR1 hS1 _ _ => ?_)
  obtain ⟨x, rfl, hMT2⟩ := hq
  show W p l e room_1 s m args below meth c H1 locs1 164 26813 Z (F0 m 335 lr [.int x])
  refine lv_aload_n hx hb dL_law_335 rfl (lv_at hL 1 rfl) ?_
  refine L_arg (k := 1) he0 hS1 hL hn (by decide) rfl dL_law_336 dL_law_337 dL_law_338 dL_law_339 dL_law_340 ?_
  refine L_arg (k := 2) he0 hS1 hL hn (by decide) rfl dL_law_341 dL_law_342 dL_law_343 dL_law_344 dL_law_345 ?_
  refine L_arg (k := 3) he0 hS1 hL hn (by decide) rfl dL_law_346 dL_law_347 dL_law_348 dL_law_349 dL_law_350 ?_
  refine W_callV (cc := code) (nL := 4) (d := 61) (k := 0) (i := 0) (As := [vI (xs (n + 1)), vI (xs (n + 2)), vI (xs (n + 3))]) (rest := [.int x]) hx hb hml hown hts hI (he0.kk hS1) hR1 (by decide) (by decide) (by decide) ml_L_36 rfl (Nat.le_of_ble_eq_true rfl) (by decide) (by decide) rfl cl_11.1 rfl hMT2 hL.1 (by show 1 ≤ 8; decide) dL_law_351 (by decide) (by decide) hS1 hReg (fun rv2 σ2 H2 locs2 hq2 hR2 hS2 _ _ => ?_)
  obtain ⟨rfl, hi2⟩ := hq2
  show W p l e room_1 s m args below meth c H2 locs2 164 26813 Z (F0 m 354 lr [.int x, .int x])
  exact lv_icmp_eq hx hb dL_law_354 (tgt := 956) rfl (fun _ => kk σ2 H2 locs2 hi2 hR2 hS2) (fun z => absurd rfl z)
theorem cs_stock (he : LWe E b L xs p s m args c) (hS : va_S (fun q => s.heap.size ≤ q) s.heap H locs) (hL : lv_has lr 4 [(3, .int (nI n)), (2, .ref (E.2.2 0 0)), (1, .ref (E.2.2 1 0)), (0, .ref b)]) (hn : n + 6 ≤ L) (hi : Inv σ) (hR : Rep E σ H)
    (kk : ∀ (σ2 : HS) (H2 : Heap) (locs2 : List Loc), Inv σ2 → Rep E σ2 H2 → va_S (fun q => s.heap.size ≤ q) s.heap H2 locs2 → W p l e room_1 s m args below meth c H2 locs2 164 26813 Z (F0 m 956 lr [])) : W p l e room_1 s m args below meth c H locs 164 26813 Z (F0 m 359 lr []) := by
  have he0 := he
  obtain ⟨hx, hb, hml, hown, hts, hI, hK, hX, hbl, hReg, hL3⟩ := he
  refine lv_aload_n hx hb dL_law_359 rfl (lv_at hL 2 rfl) ?_
  refine L_arg (k := 1) he0 hS hL hn (by decide) rfl dL_law_360 dL_law_361 dL_law_362 dL_law_363 dL_law_364 ?_
  refine L_arg (k := 2) he0 hS hL hn (by decide) rfl dL_law_365 dL_law_366 dL_law_367 dL_law_368 dL_law_369 ?_
  refine L_arg (k := 3) he0 hS hL hn (by decide) rfl dL_law_370 dL_law_371 dL_law_372 dL_law_373 dL_law_374 ?_
  refine W_callV (cc := code) (nL := 4) (d := 61) (k := 1) (i := 0) (As := [vI (xs (n + 1)), vI (xs (n + 2)), vI (xs (n + 3))]) (rest := []) hx hb hml hown hts hI (he0.kk hS) hR (by decide) (by decide) (by decide) ml_L_37 rfl (Nat.le_of_ble_eq_true rfl) (by decide) (by decide) rfl cl_10.1 rfl (st_stock _ _ _ σ hi) hL.1 (by decide) dL_law_375 (by decide) (by decide) hS hReg (fun rv σ1 H1 locs1 hq hR1 hS1 _ _ => ?_)
  obtain ⟨x, rfl, hMT2⟩ := hq
  show W p l e room_1 s m args below meth c H1 locs1 164 26813 Z (F0 m 378 lr [.int x])
  refine lv_aload_n hx hb dL_law_378 rfl (lv_at hL 1 rfl) ?_
  refine L_arg (k := 1) he0 hS1 hL hn (by decide) rfl dL_law_379 dL_law_380 dL_law_381 dL_law_382 dL_law_383 ?_
  refine L_arg (k := 2) he0 hS1 hL hn (by decide) rfl dL_law_384 dL_law_385 dL_law_386 dL_law_387 dL_law_388 ?_
  refine L_arg (k := 3) he0 hS1 hL hn (by decide) rfl dL_law_389 dL_law_390 dL_law_391 dL_law_392 dL_law_393 ?_
  refine W_callV (cc := code) (nL := 4) (d := 61) (k := 0) (i := 0) (As := [vI (xs (n + 1)), vI (xs (n + 2)), vI (xs (n + 3))]) (rest := [.int x]) hx hb hml hown hts hI (he0.kk hS1) hR1 (by decide) (by decide) (by decide) ml_L_40 rfl (Nat.le_of_ble_eq_true rfl) (by decide) (by decide) rfl cl_11.1 rfl hMT2 hL.1 (by show 1 ≤ 8; decide) dL_law_394 (by decide) (by decide) hS1 hReg (fun rv2 σ2 H2 locs2 hq2 hR2 hS2 _ _ => ?_)
  obtain ⟨rfl, hi2⟩ := hq2
  show W p l e room_1 s m args below meth c H2 locs2 164 26813 Z (F0 m 397 lr [.int x, .int x])
  exact lv_icmp_eq hx hb dL_law_397 (tgt := 956) rfl (fun _ => kk σ2 H2 locs2 hi2 hR2 hS2) (fun z => absurd rfl z)
theorem cs_feed (he : LWe E b L xs p s m args c) (hS : va_S (fun q => s.heap.size ≤ q) s.heap H locs) (hL : lv_has lr 4 [(3, .int (nI n)), (2, .ref (E.2.2 0 0)), (1, .ref (E.2.2 1 0)), (0, .ref b)]) (hn : n + 6 ≤ L) (hi : Inv σ) (hR : Rep E σ H)
    (kk : ∀ (σ2 : HS) (H2 : Heap) (locs2 : List Loc), Inv σ2 → Rep E σ2 H2 → va_S (fun q => s.heap.size ≤ q) s.heap H2 locs2 → W p l e room_1 s m args below meth c H2 locs2 164 26813 Z (F0 m 956 lr [])) : W p l e room_1 s m args below meth c H locs 164 26813 Z (F0 m 402 lr []) := by
  have he0 := he
  obtain ⟨hx, hb, hml, hown, hts, hI, hK, hX, hbl, hReg, hL3⟩ := he
  refine lv_aload_n hx hb dL_law_402 rfl (lv_at hL 2 rfl) ?_
  refine L_arg (k := 1) he0 hS hL hn (by decide) rfl dL_law_403 dL_law_404 dL_law_405 dL_law_406 dL_law_407 ?_
  refine L_arg (k := 2) he0 hS hL hn (by decide) rfl dL_law_408 dL_law_409 dL_law_410 dL_law_411 dL_law_412 ?_
  refine L_arg (k := 3) he0 hS hL hn (by decide) rfl dL_law_413 dL_law_414 dL_law_415 dL_law_416 dL_law_417 ?_
  refine L_arg (k := 4) he0 hS hL hn (by decide) rfl dL_law_418 dL_law_419 dL_law_420 dL_law_421 dL_law_422 ?_
  refine L_arg (k := 5) he0 hS hL hn (by decide) rfl dL_law_423 dL_law_424 dL_law_425 dL_law_426 dL_law_427 ?_
  refine W_callV (cc := code) (nL := 4) (d := 61) (k := 1) (i := 0) (As := [vI (xs (n + 1)), vI (xs (n + 2)), vI (xs (n + 3)), vI (xs (n + 4)), vI (xs (n + 5))]) (rest := []) hx hb hml hown hts hI (he0.kk hS) hR (by decide) (by decide) (by decide) ml_L_41 rfl (Nat.le_of_ble_eq_true rfl) (by decide) (by decide) rfl cl_10.1 rfl (st_feed _ _ _ _ _ σ hi) hL.1 (by decide) dL_law_428 (by decide) (by decide) hS hReg (fun rv σ1 H1 locs1 hq hR1 hS1 _ _ => ?_)
  obtain ⟨x, rfl, hMT2⟩ := hq
  show W p l e room_1 s m args below meth c H1 locs1 164 26813 Z (F0 m 431 lr [.int x])
  refine lv_aload_n hx hb dL_law_431 rfl (lv_at hL 1 rfl) ?_
  refine L_arg (k := 1) he0 hS1 hL hn (by decide) rfl dL_law_432 dL_law_433 dL_law_434 dL_law_435 dL_law_436 ?_
  refine L_arg (k := 2) he0 hS1 hL hn (by decide) rfl dL_law_437 dL_law_438 dL_law_439 dL_law_440 dL_law_441 ?_
  refine L_arg (k := 3) he0 hS1 hL hn (by decide) rfl dL_law_442 dL_law_443 dL_law_444 dL_law_445 dL_law_446 ?_
  refine L_arg (k := 4) he0 hS1 hL hn (by decide) rfl dL_law_447 dL_law_448 dL_law_449 dL_law_450 dL_law_451 ?_
  refine L_arg (k := 5) he0 hS1 hL hn (by decide) rfl dL_law_452 dL_law_453 dL_law_454 dL_law_455 dL_law_456 ?_
  refine W_callV (cc := code) (nL := 4) (d := 61) (k := 0) (i := 0) (As := [vI (xs (n + 1)), vI (xs (n + 2)), vI (xs (n + 3)), vI (xs (n + 4)), vI (xs (n + 5))]) (rest := [.int x]) hx hb hml hown hts hI (he0.kk hS1) hR1 (by decide) (by decide) (by decide) ml_L_45 rfl (Nat.le_of_ble_eq_true rfl) (by decide) (by decide) rfl cl_11.1 rfl hMT2 hL.1 (by show 1 ≤ 8; decide) dL_law_457 (by decide) (by decide) hS1 hReg (fun rv2 σ2 H2 locs2 hq2 hR2 hS2 _ _ => ?_)
  obtain ⟨rfl, hi2⟩ := hq2
  show W p l e room_1 s m args below meth c H2 locs2 164 26813 Z (F0 m 460 lr [.int x, .int x])
  exact lv_icmp_eq hx hb dL_law_460 (tgt := 956) rfl (fun _ => kk σ2 H2 locs2 hi2 hR2 hS2) (fun z => absurd rfl z)
theorem cs_end (he : LWe E b L xs p s m args c) (hS : va_S (fun q => s.heap.size ≤ q) s.heap H locs) (hL : lv_has lr 4 [(3, .int (nI n)), (2, .ref (E.2.2 0 0)), (1, .ref (E.2.2 1 0)), (0, .ref b)]) (hn : n + 6 ≤ L) (hi : Inv σ) (hR : Rep E σ H)
    (kk : ∀ (σ2 : HS) (H2 : Heap) (locs2 : List Loc), Inv σ2 → Rep E σ2 H2 → va_S (fun q => s.heap.size ≤ q) s.heap H2 locs2 → W p l e room_1 s m args below meth c H2 locs2 164 26813 Z (F0 m 956 lr [])) : W p l e room_1 s m args below meth c H locs 164 26813 Z (F0 m 465 lr []) := by
  have he0 := he
  obtain ⟨hx, hb, hml, hown, hts, hI, hK, hX, hbl, hReg, hL3⟩ := he
  refine lv_aload_n hx hb dL_law_465 rfl (lv_at hL 2 rfl) ?_
  refine L_arg (k := 1) he0 hS hL hn (by decide) rfl dL_law_466 dL_law_467 dL_law_468 dL_law_469 dL_law_470 ?_
  refine W_callV (cc := code) (nL := 4) (d := 61) (k := 1) (i := 0) (As := [vI (xs (n + 1))]) (rest := []) hx hb hml hown hts hI (he0.kk hS) hR (by decide) (by decide) (by decide) ml_L_46 rfl (Nat.le_of_ble_eq_true rfl) (by decide) (by decide) rfl cl_10.1 rfl (st_end _ σ hi) hL.1 (by decide) dL_law_471 (by decide) (by decide) hS hReg (fun rv σ1 H1 locs1 hq hR1 hS1 _ _ => ?_)
  obtain ⟨x, rfl, hMT2⟩ := hq
  show W p l e room_1 s m args below meth c H1 locs1 164 26813 Z (F0 m 474 lr [.int x])
  refine lv_aload_n hx hb dL_law_474 rfl (lv_at hL 1 rfl) ?_
  refine L_arg (k := 1) he0 hS1 hL hn (by decide) rfl dL_law_475 dL_law_476 dL_law_477 dL_law_478 dL_law_479 ?_
  refine W_callV (cc := code) (nL := 4) (d := 61) (k := 0) (i := 0) (As := [vI (xs (n + 1))]) (rest := [.int x]) hx hb hml hown hts hI (he0.kk hS1) hR1 (by decide) (by decide) (by decide) ml_L_50 rfl (Nat.le_of_ble_eq_true rfl) (by decide) (by decide) rfl cl_11.1 rfl hMT2 hL.1 (by show 1 ≤ 8; decide) dL_law_480 (by decide) (by decide) hS1 hReg (fun rv2 σ2 H2 locs2 hq2 hR2 hS2 _ _ => ?_)
  obtain ⟨rfl, hi2⟩ := hq2
  show W p l e room_1 s m args below meth c H2 locs2 164 26813 Z (F0 m 483 lr [.int x, .int x])
  exact lv_icmp_eq hx hb dL_law_483 (tgt := 956) rfl (fun _ => kk σ2 H2 locs2 hi2 hR2 hS2) (fun z => absurd rfl z)
theorem cs_orders (he : LWe E b L xs p s m args c) (hS : va_S (fun q => s.heap.size ≤ q) s.heap H locs) (hL : lv_has lr 4 [(3, .int (nI n)), (2, .ref (E.2.2 0 0)), (1, .ref (E.2.2 1 0)), (0, .ref b)]) (hn : n + 6 ≤ L) (hi : Inv σ) (hR : Rep E σ H)
    (kk : ∀ (σ2 : HS) (H2 : Heap) (locs2 : List Loc), Inv σ2 → Rep E σ2 H2 → va_S (fun q => s.heap.size ≤ q) s.heap H2 locs2 → W p l e room_1 s m args below meth c H2 locs2 164 26813 Z (F0 m 956 lr [])) : W p l e room_1 s m args below meth c H locs 164 26813 Z (F0 m 488 lr []) := by
  have he0 := he
  obtain ⟨hx, hb, hml, hown, hts, hI, hK, hX, hbl, hReg, hL3⟩ := he
  refine lv_aload_n hx hb dL_law_488 rfl (lv_at hL 2 rfl) ?_
  refine W_callV (cc := code) (nL := 4) (d := 61) (k := 1) (i := 0) (As := []) (rest := []) hx hb hml hown hts hI (he0.kk hS) hR (by decide) (by decide) (by decide) ml_L_51 rfl (Nat.le_of_ble_eq_true rfl) (by decide) (by decide) rfl cl_10.1 rfl (st_orders σ hi) hL.1 (by decide) dL_law_489 (by decide) (by decide) hS hReg (fun rv σ1 H1 locs1 hq hR1 hS1 _ _ => ?_)
  obtain ⟨x, rfl, hMT2⟩ := hq
  show W p l e room_1 s m args below meth c H1 locs1 164 26813 Z (F0 m 492 lr [.int x])
  refine lv_aload_n hx hb dL_law_492 rfl (lv_at hL 1 rfl) ?_
  refine W_callV (cc := code) (nL := 4) (d := 61) (k := 0) (i := 0) (As := []) (rest := [.int x]) hx hb hml hown hts hI (he0.kk hS1) hR1 (by decide) (by decide) (by decide) ml_L_55 rfl (Nat.le_of_ble_eq_true rfl) (by decide) (by decide) rfl cl_11.1 rfl hMT2 hL.1 (by show 1 ≤ 8; decide) dL_law_493 (by decide) (by decide) hS1 hReg (fun rv2 σ2 H2 locs2 hq2 hR2 hS2 _ _ => ?_)
  obtain ⟨rfl, hi2⟩ := hq2
  show W p l e room_1 s m args below meth c H2 locs2 164 26813 Z (F0 m 496 lr [.int x, .int x])
  exact lv_icmp_eq hx hb dL_law_496 (tgt := 956) rfl (fun _ => kk σ2 H2 locs2 hi2 hR2 hS2) (fun z => absurd rfl z)
theorem cs_fault (he : LWe E b L xs p s m args c) (hS : va_S (fun q => s.heap.size ≤ q) s.heap H locs) (hL : lv_has lr 4 [(3, .int (nI n)), (2, .ref (E.2.2 0 0)), (1, .ref (E.2.2 1 0)), (0, .ref b)]) (hn : n + 6 ≤ L) (hi : Inv σ) (hR : Rep E σ H)
    (kk : ∀ (σ2 : HS) (H2 : Heap) (locs2 : List Loc), Inv σ2 → Rep E σ2 H2 → va_S (fun q => s.heap.size ≤ q) s.heap H2 locs2 → W p l e room_1 s m args below meth c H2 locs2 164 26813 Z (F0 m 956 lr [])) : W p l e room_1 s m args below meth c H locs 164 26813 Z (F0 m 501 lr []) := by
  have he0 := he
  obtain ⟨hx, hb, hml, hown, hts, hI, hK, hX, hbl, hReg, hL3⟩ := he
  refine lv_aload_n hx hb dL_law_501 rfl (lv_at hL 2 rfl) ?_
  refine L_arg (k := 1) he0 hS hL hn (by decide) rfl dL_law_502 dL_law_503 dL_law_504 dL_law_505 dL_law_506 ?_
  refine W_callV (cc := code) (nL := 4) (d := 61) (k := 1) (i := 0) (As := [vI (xs (n + 1))]) (rest := []) hx hb hml hown hts hI (he0.kk hS) hR (by decide) (by decide) (by decide) ml_L_56 rfl (Nat.le_of_ble_eq_true rfl) (by decide) (by decide) rfl cl_10.1 rfl (st_fault _ σ hi) hL.1 (by decide) dL_law_507 (by decide) (by decide) hS hReg (fun rv σ1 H1 locs1 hq hR1 hS1 _ _ => ?_)
  obtain ⟨x, rfl, hMT2⟩ := hq
  show W p l e room_1 s m args below meth c H1 locs1 164 26813 Z (F0 m 510 lr [.int x])
  refine lv_aload_n hx hb dL_law_510 rfl (lv_at hL 1 rfl) ?_
  refine L_arg (k := 1) he0 hS1 hL hn (by decide) rfl dL_law_511 dL_law_512 dL_law_513 dL_law_514 dL_law_515 ?_
  refine W_callV (cc := code) (nL := 4) (d := 61) (k := 0) (i := 0) (As := [vI (xs (n + 1))]) (rest := [.int x]) hx hb hml hown hts hI (he0.kk hS1) hR1 (by decide) (by decide) (by decide) ml_L_59 rfl (Nat.le_of_ble_eq_true rfl) (by decide) (by decide) rfl cl_11.1 rfl hMT2 hL.1 (by show 1 ≤ 8; decide) dL_law_516 (by decide) (by decide) hS1 hReg (fun rv2 σ2 H2 locs2 hq2 hR2 hS2 _ _ => ?_)
  obtain ⟨rfl, hi2⟩ := hq2
  show W p l e room_1 s m args below meth c H2 locs2 164 26813 Z (F0 m 519 lr [.int x, .int x])
  exact lv_icmp_eq hx hb dL_law_519 (tgt := 956) rfl (fun _ => kk σ2 H2 locs2 hi2 hR2 hS2) (fun z => absurd rfl z)
theorem cs_months (he : LWe E b L xs p s m args c) (hS : va_S (fun q => s.heap.size ≤ q) s.heap H locs) (hL : lv_has lr 4 [(3, .int (nI n)), (2, .ref (E.2.2 0 0)), (1, .ref (E.2.2 1 0)), (0, .ref b)]) (hn : n + 6 ≤ L) (hi : Inv σ) (hR : Rep E σ H)
    (kk : ∀ (σ2 : HS) (H2 : Heap) (locs2 : List Loc), Inv σ2 → Rep E σ2 H2 → va_S (fun q => s.heap.size ≤ q) s.heap H2 locs2 → W p l e room_1 s m args below meth c H2 locs2 164 26813 Z (F0 m 956 lr [])) : W p l e room_1 s m args below meth c H locs 164 26813 Z (F0 m 524 lr []) := by
  have he0 := he
  obtain ⟨hx, hb, hml, hown, hts, hI, hK, hX, hbl, hReg, hL3⟩ := he
  refine lv_aload_n hx hb dL_law_524 rfl (lv_at hL 2 rfl) ?_
  refine L_arg (k := 1) he0 hS hL hn (by decide) rfl dL_law_525 dL_law_526 dL_law_527 dL_law_528 dL_law_529 ?_
  refine W_callV (cc := code) (nL := 4) (d := 61) (k := 1) (i := 0) (As := [vI (xs (n + 1))]) (rest := []) hx hb hml hown hts hI (he0.kk hS) hR (by decide) (by decide) (by decide) ml_L_60 rfl (Nat.le_of_ble_eq_true rfl) (by decide) (by decide) rfl cl_10.1 rfl (st_months _ σ hi) hL.1 (by decide) dL_law_530 (by decide) (by decide) hS hReg (fun rv σ1 H1 locs1 hq hR1 hS1 _ _ => ?_)
  obtain ⟨x, rfl, hMT2⟩ := hq
  show W p l e room_1 s m args below meth c H1 locs1 164 26813 Z (F0 m 533 lr [.int x])
  refine lv_aload_n hx hb dL_law_533 rfl (lv_at hL 1 rfl) ?_
  refine L_arg (k := 1) he0 hS1 hL hn (by decide) rfl dL_law_534 dL_law_535 dL_law_536 dL_law_537 dL_law_538 ?_
  refine W_callV (cc := code) (nL := 4) (d := 61) (k := 0) (i := 0) (As := [vI (xs (n + 1))]) (rest := [.int x]) hx hb hml hown hts hI (he0.kk hS1) hR1 (by decide) (by decide) (by decide) ml_L_63 rfl (Nat.le_of_ble_eq_true rfl) (by decide) (by decide) rfl cl_11.1 rfl hMT2 hL.1 (by show 1 ≤ 8; decide) dL_law_539 (by decide) (by decide) hS1 hReg (fun rv2 σ2 H2 locs2 hq2 hR2 hS2 _ _ => ?_)
  obtain ⟨rfl, hi2⟩ := hq2
  show W p l e room_1 s m args below meth c H2 locs2 164 26813 Z (F0 m 542 lr [.int x, .int x])
  exact lv_icmp_eq hx hb dL_law_542 (tgt := 956) rfl (fun _ => kk σ2 H2 locs2 hi2 hR2 hS2) (fun z => absurd rfl z)
theorem cs_sum (he : LWe E b L xs p s m args c) (hS : va_S (fun q => s.heap.size ≤ q) s.heap H locs) (hL : lv_has lr 4 [(3, .int (nI n)), (2, .ref (E.2.2 0 0)), (1, .ref (E.2.2 1 0)), (0, .ref b)]) (hn : n + 6 ≤ L) (hi : Inv σ) (hR : Rep E σ H)
    (kk : ∀ (σ2 : HS) (H2 : Heap) (locs2 : List Loc), Inv σ2 → Rep E σ2 H2 → va_S (fun q => s.heap.size ≤ q) s.heap H2 locs2 → W p l e room_1 s m args below meth c H2 locs2 164 26813 Z (F0 m 956 lr [])) : W p l e room_1 s m args below meth c H locs 164 26813 Z (F0 m 547 lr []) := by
  have he0 := he
  obtain ⟨hx, hb, hml, hown, hts, hI, hK, hX, hbl, hReg, hL3⟩ := he
  refine lv_aload_n hx hb dL_law_547 rfl (lv_at hL 2 rfl) ?_
  refine L_arg (k := 1) he0 hS hL hn (by decide) rfl dL_law_548 dL_law_549 dL_law_550 dL_law_551 dL_law_552 ?_
  refine W_callV (cc := code) (nL := 4) (d := 61) (k := 1) (i := 0) (As := [vI (xs (n + 1))]) (rest := []) hx hb hml hown hts hI (he0.kk hS) hR (by decide) (by decide) (by decide) ml_L_64 rfl (Nat.le_of_ble_eq_true rfl) (by decide) (by decide) rfl cl_10.1 rfl (st_sum _ σ hi) hL.1 (by decide) dL_law_553 (by decide) (by decide) hS hReg (fun rv σ1 H1 locs1 hq hR1 hS1 _ _ => ?_)
  obtain ⟨x, rfl, hMT2⟩ := hq
  show W p l e room_1 s m args below meth c H1 locs1 164 26813 Z (F0 m 556 lr [.int x])
  refine lv_aload_n hx hb dL_law_556 rfl (lv_at hL 1 rfl) ?_
  refine L_arg (k := 1) he0 hS1 hL hn (by decide) rfl dL_law_557 dL_law_558 dL_law_559 dL_law_560 dL_law_561 ?_
  refine W_callV (cc := code) (nL := 4) (d := 61) (k := 0) (i := 0) (As := [vI (xs (n + 1))]) (rest := [.int x]) hx hb hml hown hts hI (he0.kk hS1) hR1 (by decide) (by decide) (by decide) ml_L_67 rfl (Nat.le_of_ble_eq_true rfl) (by decide) (by decide) rfl cl_11.1 rfl hMT2 hL.1 (by show 1 ≤ 8; decide) dL_law_562 (by decide) (by decide) hS1 hReg (fun rv2 σ2 H2 locs2 hq2 hR2 hS2 _ _ => ?_)
  obtain ⟨rfl, hi2⟩ := hq2
  show W p l e room_1 s m args below meth c H2 locs2 164 26813 Z (F0 m 565 lr [.int x, .int x])
  exact lv_icmp_eq hx hb dL_law_565 (tgt := 956) rfl (fun _ => kk σ2 H2 locs2 hi2 hR2 hS2) (fun z => absurd rfl z)
theorem cs_feast (he : LWe E b L xs p s m args c) (hS : va_S (fun q => s.heap.size ≤ q) s.heap H locs) (hL : lv_has lr 4 [(3, .int (nI n)), (2, .ref (E.2.2 0 0)), (1, .ref (E.2.2 1 0)), (0, .ref b)]) (hn : n + 6 ≤ L) (hi : Inv σ) (hR : Rep E σ H)
    (kk : ∀ (σ2 : HS) (H2 : Heap) (locs2 : List Loc), Inv σ2 → Rep E σ2 H2 → va_S (fun q => s.heap.size ≤ q) s.heap H2 locs2 → W p l e room_1 s m args below meth c H2 locs2 164 26813 Z (F0 m 956 lr [])) : W p l e room_1 s m args below meth c H locs 164 26813 Z (F0 m 570 lr []) := by
  have he0 := he
  obtain ⟨hx, hb, hml, hown, hts, hI, hK, hX, hbl, hReg, hL3⟩ := he
  refine lv_aload_n hx hb dL_law_570 rfl (lv_at hL 2 rfl) ?_
  refine L_arg (k := 1) he0 hS hL hn (by decide) rfl dL_law_571 dL_law_572 dL_law_573 dL_law_574 dL_law_575 ?_
  refine L_arg (k := 2) he0 hS hL hn (by decide) rfl dL_law_576 dL_law_577 dL_law_578 dL_law_579 dL_law_580 ?_
  refine L_arg (k := 3) he0 hS hL hn (by decide) rfl dL_law_581 dL_law_582 dL_law_583 dL_law_584 dL_law_585 ?_
  refine L_arg (k := 4) he0 hS hL hn (by decide) rfl dL_law_586 dL_law_587 dL_law_588 dL_law_589 dL_law_590 ?_
  refine W_callV (cc := code) (nL := 4) (d := 61) (k := 1) (i := 0) (As := [vI (xs (n + 1)), vI (xs (n + 2)), vI (xs (n + 3)), vI (xs (n + 4))]) (rest := []) hx hb hml hown hts hI (he0.kk hS) hR (by decide) (by decide) (by decide) ml_L_68 rfl (Nat.le_of_ble_eq_true rfl) (by decide) (by decide) rfl cl_10.1 rfl (st_feast _ _ _ _ σ hi) hL.1 (by decide) dL_law_591 (by decide) (by decide) hS hReg (fun rv σ1 H1 locs1 hq hR1 hS1 _ _ => ?_)
  obtain ⟨x, rfl, hMT2⟩ := hq
  show W p l e room_1 s m args below meth c H1 locs1 164 26813 Z (F0 m 594 lr [.int x])
  refine lv_aload_n hx hb dL_law_594 rfl (lv_at hL 1 rfl) ?_
  refine L_arg (k := 1) he0 hS1 hL hn (by decide) rfl dL_law_595 dL_law_596 dL_law_597 dL_law_598 dL_law_599 ?_
  refine L_arg (k := 2) he0 hS1 hL hn (by decide) rfl dL_law_600 dL_law_601 dL_law_602 dL_law_603 dL_law_604 ?_
  refine L_arg (k := 3) he0 hS1 hL hn (by decide) rfl dL_law_605 dL_law_606 dL_law_607 dL_law_608 dL_law_609 ?_
  refine L_arg (k := 4) he0 hS1 hL hn (by decide) rfl dL_law_610 dL_law_611 dL_law_612 dL_law_613 dL_law_614 ?_
  refine W_callV (cc := code) (nL := 4) (d := 61) (k := 0) (i := 0) (As := [vI (xs (n + 1)), vI (xs (n + 2)), vI (xs (n + 3)), vI (xs (n + 4))]) (rest := [.int x]) hx hb hml hown hts hI (he0.kk hS1) hR1 (by decide) (by decide) (by decide) ml_L_71 rfl (Nat.le_of_ble_eq_true rfl) (by decide) (by decide) rfl cl_11.1 rfl hMT2 hL.1 (by show 1 ≤ 8; decide) dL_law_615 (by decide) (by decide) hS1 hReg (fun rv2 σ2 H2 locs2 hq2 hR2 hS2 _ _ => ?_)
  obtain ⟨rfl, hi2⟩ := hq2
  show W p l e room_1 s m args below meth c H2 locs2 164 26813 Z (F0 m 618 lr [.int x, .int x])
  exact lv_icmp_eq hx hb dL_law_618 (tgt := 956) rfl (fun _ => kk σ2 H2 locs2 hi2 hR2 hS2) (fun z => absurd rfl z)
theorem cs_cancel (he : LWe E b L xs p s m args c) (hS : va_S (fun q => s.heap.size ≤ q) s.heap H locs) (hL : lv_has lr 4 [(3, .int (nI n)), (2, .ref (E.2.2 0 0)), (1, .ref (E.2.2 1 0)), (0, .ref b)]) (hn : n + 6 ≤ L) (hi : Inv σ) (hR : Rep E σ H)
    (kk : ∀ (σ2 : HS) (H2 : Heap) (locs2 : List Loc), Inv σ2 → Rep E σ2 H2 → va_S (fun q => s.heap.size ≤ q) s.heap H2 locs2 → W p l e room_1 s m args below meth c H2 locs2 164 26813 Z (F0 m 956 lr [])) : W p l e room_1 s m args below meth c H locs 164 26813 Z (F0 m 623 lr []) := by
  have he0 := he
  obtain ⟨hx, hb, hml, hown, hts, hI, hK, hX, hbl, hReg, hL3⟩ := he
  refine lv_aload_n hx hb dL_law_623 rfl (lv_at hL 2 rfl) ?_
  refine W_callV (cc := code) (nL := 4) (d := 61) (k := 1) (i := 0) (As := []) (rest := []) hx hb hml hown hts hI (he0.kk hS) hR (by decide) (by decide) (by decide) ml_L_72 rfl (Nat.le_of_ble_eq_true rfl) (by decide) (by decide) rfl cl_10.1 rfl (st_cancel σ hi) hL.1 (by decide) dL_law_624 (by decide) (by decide) hS hReg (fun rv σ1 H1 locs1 hq hR1 hS1 _ _ => ?_)
  obtain ⟨x, rfl, hMT2⟩ := hq
  show W p l e room_1 s m args below meth c H1 locs1 164 26813 Z (F0 m 627 lr [.int x])
  refine lv_aload_n hx hb dL_law_627 rfl (lv_at hL 1 rfl) ?_
  refine W_callV (cc := code) (nL := 4) (d := 61) (k := 0) (i := 0) (As := []) (rest := [.int x]) hx hb hml hown hts hI (he0.kk hS1) hR1 (by decide) (by decide) (by decide) ml_L_76 rfl (Nat.le_of_ble_eq_true rfl) (by decide) (by decide) rfl cl_11.1 rfl hMT2 hL.1 (by show 1 ≤ 8; decide) dL_law_628 (by decide) (by decide) hS1 hReg (fun rv2 σ2 H2 locs2 hq2 hR2 hS2 _ _ => ?_)
  obtain ⟨rfl, hi2⟩ := hq2
  show W p l e room_1 s m args below meth c H2 locs2 164 26813 Z (F0 m 631 lr [.int x, .int x])
  exact lv_icmp_eq hx hb dL_law_631 (tgt := 956) rfl (fun _ => kk σ2 H2 locs2 hi2 hR2 hS2) (fun z => absurd rfl z)
theorem cs_fed (he : LWe E b L xs p s m args c) (hS : va_S (fun q => s.heap.size ≤ q) s.heap H locs) (hL : lv_has lr 4 [(3, .int (nI n)), (2, .ref (E.2.2 0 0)), (1, .ref (E.2.2 1 0)), (0, .ref b)]) (hn : n + 6 ≤ L) (hi : Inv σ) (hR : Rep E σ H)
    (kk : ∀ (σ2 : HS) (H2 : Heap) (locs2 : List Loc), Inv σ2 → Rep E σ2 H2 → va_S (fun q => s.heap.size ≤ q) s.heap H2 locs2 → W p l e room_1 s m args below meth c H2 locs2 164 26813 Z (F0 m 956 lr [])) : W p l e room_1 s m args below meth c H locs 164 26813 Z (F0 m 636 lr []) := by
  have he0 := he
  obtain ⟨hx, hb, hml, hown, hts, hI, hK, hX, hbl, hReg, hL3⟩ := he
  refine lv_aload_n hx hb dL_law_636 rfl (lv_at hL 2 rfl) ?_
  refine W_callV (cc := code) (nL := 4) (d := 61) (k := 1) (i := 0) (As := []) (rest := []) hx hb hml hown hts hI (he0.kk hS) hR (by decide) (by decide) (by decide) ml_L_77 rfl (Nat.le_of_ble_eq_true rfl) (by decide) (by decide) rfl cl_10.1 rfl (st_fed σ hi) hL.1 (by decide) dL_law_637 (by decide) (by decide) hS hReg (fun rv σ1 H1 locs1 hq hR1 hS1 _ _ => ?_)
  obtain ⟨x, rfl, hMT2⟩ := hq
  show W p l e room_1 s m args below meth c H1 locs1 164 26813 Z (F0 m 640 lr [.int x])
  refine lv_aload_n hx hb dL_law_640 rfl (lv_at hL 1 rfl) ?_
  refine W_callV (cc := code) (nL := 4) (d := 61) (k := 0) (i := 0) (As := []) (rest := [.int x]) hx hb hml hown hts hI (he0.kk hS1) hR1 (by decide) (by decide) (by decide) ml_L_80 rfl (Nat.le_of_ble_eq_true rfl) (by decide) (by decide) rfl cl_11.1 rfl hMT2 hL.1 (by show 1 ≤ 8; decide) dL_law_641 (by decide) (by decide) hS1 hReg (fun rv2 σ2 H2 locs2 hq2 hR2 hS2 _ _ => ?_)
  obtain ⟨rfl, hi2⟩ := hq2
  show W p l e room_1 s m args below meth c H2 locs2 164 26813 Z (F0 m 644 lr [.int x, .int x])
  exact lv_icmp_eq hx hb dL_law_644 (tgt := 956) rfl (fun _ => kk σ2 H2 locs2 hi2 hR2 hS2) (fun z => absurd rfl z)
theorem cs_carried (he : LWe E b L xs p s m args c) (hS : va_S (fun q => s.heap.size ≤ q) s.heap H locs) (hL : lv_has lr 4 [(3, .int (nI n)), (2, .ref (E.2.2 0 0)), (1, .ref (E.2.2 1 0)), (0, .ref b)]) (hn : n + 6 ≤ L) (hi : Inv σ) (hR : Rep E σ H)
    (kk : ∀ (σ2 : HS) (H2 : Heap) (locs2 : List Loc), Inv σ2 → Rep E σ2 H2 → va_S (fun q => s.heap.size ≤ q) s.heap H2 locs2 → W p l e room_1 s m args below meth c H2 locs2 164 26813 Z (F0 m 956 lr [])) : W p l e room_1 s m args below meth c H locs 164 26813 Z (F0 m 649 lr []) := by
  have he0 := he
  obtain ⟨hx, hb, hml, hown, hts, hI, hK, hX, hbl, hReg, hL3⟩ := he
  refine lv_aload_n hx hb dL_law_649 rfl (lv_at hL 2 rfl) ?_
  refine W_callV (cc := code) (nL := 4) (d := 61) (k := 1) (i := 0) (As := []) (rest := []) hx hb hml hown hts hI (he0.kk hS) hR (by decide) (by decide) (by decide) ml_L_81 rfl (Nat.le_of_ble_eq_true rfl) (by decide) (by decide) rfl cl_10.1 rfl (st_carried σ hi) hL.1 (by decide) dL_law_650 (by decide) (by decide) hS hReg (fun rv σ1 H1 locs1 hq hR1 hS1 _ _ => ?_)
  obtain ⟨x, rfl, hMT2⟩ := hq
  show W p l e room_1 s m args below meth c H1 locs1 164 26813 Z (F0 m 653 lr [.int x])
  refine lv_aload_n hx hb dL_law_653 rfl (lv_at hL 1 rfl) ?_
  refine W_callV (cc := code) (nL := 4) (d := 61) (k := 0) (i := 0) (As := []) (rest := [.int x]) hx hb hml hown hts hI (he0.kk hS1) hR1 (by decide) (by decide) (by decide) ml_L_84 rfl (Nat.le_of_ble_eq_true rfl) (by decide) (by decide) rfl cl_11.1 rfl hMT2 hL.1 (by show 1 ≤ 8; decide) dL_law_654 (by decide) (by decide) hS1 hReg (fun rv2 σ2 H2 locs2 hq2 hR2 hS2 _ _ => ?_)
  obtain ⟨rfl, hi2⟩ := hq2
  show W p l e room_1 s m args below meth c H2 locs2 164 26813 Z (F0 m 657 lr [.int x, .int x])
  exact lv_icmp_eq hx hb dL_law_657 (tgt := 956) rfl (fun _ => kk σ2 H2 locs2 hi2 hR2 hS2) (fun z => absurd rfl z)
theorem cs_call (he : LWe E b L xs p s m args c) (hS : va_S (fun q => s.heap.size ≤ q) s.heap H locs) (hL : lv_has lr 4 [(3, .int (nI n)), (2, .ref (E.2.2 0 0)), (1, .ref (E.2.2 1 0)), (0, .ref b)]) (hn : n + 6 ≤ L) (hi : Inv σ) (hR : Rep E σ H)
    (kk : ∀ (σ2 : HS) (H2 : Heap) (locs2 : List Loc), Inv σ2 → Rep E σ2 H2 → va_S (fun q => s.heap.size ≤ q) s.heap H2 locs2 → W p l e room_1 s m args below meth c H2 locs2 164 26813 Z (F0 m 956 lr [])) : W p l e room_1 s m args below meth c H locs 164 26813 Z (F0 m 662 lr []) := by
  have he0 := he
  obtain ⟨hx, hb, hml, hown, hts, hI, hK, hX, hbl, hReg, hL3⟩ := he
  refine lv_aload_n hx hb dL_law_662 rfl (lv_at hL 2 rfl) ?_
  refine L_arg (k := 1) he0 hS hL hn (by decide) rfl dL_law_663 dL_law_664 dL_law_665 dL_law_666 dL_law_667 ?_
  refine W_callV (cc := code) (nL := 4) (d := 61) (k := 1) (i := 0) (As := [vI (xs (n + 1))]) (rest := []) hx hb hml hown hts hI (he0.kk hS) hR (by decide) (by decide) (by decide) ml_L_85 rfl (Nat.le_of_ble_eq_true rfl) (by decide) (by decide) rfl cl_10.1 rfl (st_call _ σ hi) hL.1 (by decide) dL_law_668 (by decide) (by decide) hS hReg (fun rv σ1 H1 locs1 hq hR1 hS1 _ _ => ?_)
  obtain ⟨x, rfl, hMT2⟩ := hq
  show W p l e room_1 s m args below meth c H1 locs1 164 26813 Z (F0 m 671 lr [.int x])
  refine lv_aload_n hx hb dL_law_671 rfl (lv_at hL 1 rfl) ?_
  refine L_arg (k := 1) he0 hS1 hL hn (by decide) rfl dL_law_672 dL_law_673 dL_law_674 dL_law_675 dL_law_676 ?_
  refine W_callV (cc := code) (nL := 4) (d := 61) (k := 0) (i := 0) (As := [vI (xs (n + 1))]) (rest := [.int x]) hx hb hml hown hts hI (he0.kk hS1) hR1 (by decide) (by decide) (by decide) ml_L_88 rfl (Nat.le_of_ble_eq_true rfl) (by decide) (by decide) rfl cl_11.1 rfl hMT2 hL.1 (by show 1 ≤ 8; decide) dL_law_677 (by decide) (by decide) hS1 hReg (fun rv2 σ2 H2 locs2 hq2 hR2 hS2 _ _ => ?_)
  obtain ⟨rfl, hi2⟩ := hq2
  show W p l e room_1 s m args below meth c H2 locs2 164 26813 Z (F0 m 680 lr [.int x, .int x])
  exact lv_icmp_eq hx hb dL_law_680 (tgt := 956) rfl (fun _ => kk σ2 H2 locs2 hi2 hR2 hS2) (fun z => absurd rfl z)
theorem cs_gave (he : LWe E b L xs p s m args c) (hS : va_S (fun q => s.heap.size ≤ q) s.heap H locs) (hL : lv_has lr 4 [(3, .int (nI n)), (2, .ref (E.2.2 0 0)), (1, .ref (E.2.2 1 0)), (0, .ref b)]) (hn : n + 6 ≤ L) (hi : Inv σ) (hR : Rep E σ H)
    (kk : ∀ (σ2 : HS) (H2 : Heap) (locs2 : List Loc), Inv σ2 → Rep E σ2 H2 → va_S (fun q => s.heap.size ≤ q) s.heap H2 locs2 → W p l e room_1 s m args below meth c H2 locs2 164 26813 Z (F0 m 956 lr [])) : W p l e room_1 s m args below meth c H locs 164 26813 Z (F0 m 685 lr []) := by
  have he0 := he
  obtain ⟨hx, hb, hml, hown, hts, hI, hK, hX, hbl, hReg, hL3⟩ := he
  refine lv_aload_n hx hb dL_law_685 rfl (lv_at hL 2 rfl) ?_
  refine L_arg (k := 1) he0 hS hL hn (by decide) rfl dL_law_686 dL_law_687 dL_law_688 dL_law_689 dL_law_690 ?_
  refine W_callV (cc := code) (nL := 4) (d := 61) (k := 1) (i := 0) (As := [vI (xs (n + 1))]) (rest := []) hx hb hml hown hts hI (he0.kk hS) hR (by decide) (by decide) (by decide) ml_L_89 rfl (Nat.le_of_ble_eq_true rfl) (by decide) (by decide) rfl cl_10.1 rfl (st_gave _ σ hi) hL.1 (by decide) dL_law_691 (by decide) (by decide) hS hReg (fun rv σ1 H1 locs1 hq hR1 hS1 _ _ => ?_)
  obtain ⟨x, rfl, hMT2⟩ := hq
  show W p l e room_1 s m args below meth c H1 locs1 164 26813 Z (F0 m 694 lr [.int x])
  refine lv_aload_n hx hb dL_law_694 rfl (lv_at hL 1 rfl) ?_
  refine L_arg (k := 1) he0 hS1 hL hn (by decide) rfl dL_law_695 dL_law_696 dL_law_697 dL_law_698 dL_law_699 ?_
  refine W_callV (cc := code) (nL := 4) (d := 61) (k := 0) (i := 0) (As := [vI (xs (n + 1))]) (rest := [.int x]) hx hb hml hown hts hI (he0.kk hS1) hR1 (by decide) (by decide) (by decide) ml_L_92 rfl (Nat.le_of_ble_eq_true rfl) (by decide) (by decide) rfl cl_11.1 rfl hMT2 hL.1 (by show 1 ≤ 8; decide) dL_law_700 (by decide) (by decide) hS1 hReg (fun rv2 σ2 H2 locs2 hq2 hR2 hS2 _ _ => ?_)
  obtain ⟨rfl, hi2⟩ := hq2
  show W p l e room_1 s m args below meth c H2 locs2 164 26813 Z (F0 m 703 lr [.int x, .int x])
  exact lv_icmp_eq hx hb dL_law_703 (tgt := 956) rfl (fun _ => kk σ2 H2 locs2 hi2 hR2 hS2) (fun z => absurd rfl z)
theorem cs_tell (he : LWe E b L xs p s m args c) (hS : va_S (fun q => s.heap.size ≤ q) s.heap H locs) (hL : lv_has lr 4 [(3, .int (nI n)), (2, .ref (E.2.2 0 0)), (1, .ref (E.2.2 1 0)), (0, .ref b)]) (hn : n + 6 ≤ L) (hi : Inv σ) (hR : Rep E σ H)
    (kk : ∀ (σ2 : HS) (H2 : Heap) (locs2 : List Loc), Inv σ2 → Rep E σ2 H2 → va_S (fun q => s.heap.size ≤ q) s.heap H2 locs2 → W p l e room_1 s m args below meth c H2 locs2 164 26813 Z (F0 m 956 lr [])) : W p l e room_1 s m args below meth c H locs 164 26813 Z (F0 m 708 lr []) := by
  have he0 := he
  obtain ⟨hx, hb, hml, hown, hts, hI, hK, hX, hbl, hReg, hL3⟩ := he
  refine lv_aload_n hx hb dL_law_708 rfl (lv_at hL 2 rfl) ?_
  refine L_arg (k := 1) he0 hS hL hn (by decide) rfl dL_law_709 dL_law_710 dL_law_711 dL_law_712 dL_law_713 ?_
  refine L_arg (k := 2) he0 hS hL hn (by decide) rfl dL_law_714 dL_law_715 dL_law_716 dL_law_717 dL_law_718 ?_
  refine L_arg (k := 3) he0 hS hL hn (by decide) rfl dL_law_719 dL_law_720 dL_law_721 dL_law_722 dL_law_723 ?_
  refine L_arg (k := 4) he0 hS hL hn (by decide) rfl dL_law_724 dL_law_725 dL_law_726 dL_law_727 dL_law_728 ?_
  refine L_arg (k := 5) he0 hS hL hn (by decide) rfl dL_law_729 dL_law_730 dL_law_731 dL_law_732 dL_law_733 ?_
  refine W_callV (cc := code) (nL := 4) (d := 61) (k := 1) (i := 0) (As := [vI (xs (n + 1)), vI (xs (n + 2)), vI (xs (n + 3)), vI (xs (n + 4)), vI (xs (n + 5))]) (rest := []) hx hb hml hown hts hI (he0.kk hS) hR (by decide) (by decide) (by decide) ml_L_93 rfl (Nat.le_of_ble_eq_true rfl) (by decide) (by decide) rfl cl_10.1 rfl (st_tell _ _ _ _ _ σ hi) hL.1 (by decide) dL_law_734 (by decide) (by decide) hS hReg (fun rv σ1 H1 locs1 hq hR1 hS1 _ _ => ?_)
  obtain ⟨x, rfl, hMT2⟩ := hq
  show W p l e room_1 s m args below meth c H1 locs1 164 26813 Z (F0 m 737 lr [.int x])
  refine lv_aload_n hx hb dL_law_737 rfl (lv_at hL 1 rfl) ?_
  refine L_arg (k := 1) he0 hS1 hL hn (by decide) rfl dL_law_738 dL_law_739 dL_law_740 dL_law_741 dL_law_742 ?_
  refine L_arg (k := 2) he0 hS1 hL hn (by decide) rfl dL_law_743 dL_law_744 dL_law_745 dL_law_746 dL_law_747 ?_
  refine L_arg (k := 3) he0 hS1 hL hn (by decide) rfl dL_law_748 dL_law_749 dL_law_750 dL_law_751 dL_law_752 ?_
  refine L_arg (k := 4) he0 hS1 hL hn (by decide) rfl dL_law_753 dL_law_754 dL_law_755 dL_law_756 dL_law_757 ?_
  refine L_arg (k := 5) he0 hS1 hL hn (by decide) rfl dL_law_758 dL_law_759 dL_law_760 dL_law_761 dL_law_762 ?_
  refine W_callV (cc := code) (nL := 4) (d := 61) (k := 0) (i := 0) (As := [vI (xs (n + 1)), vI (xs (n + 2)), vI (xs (n + 3)), vI (xs (n + 4)), vI (xs (n + 5))]) (rest := [.int x]) hx hb hml hown hts hI (he0.kk hS1) hR1 (by decide) (by decide) (by decide) ml_L_96 rfl (Nat.le_of_ble_eq_true rfl) (by decide) (by decide) rfl cl_11.1 rfl hMT2 hL.1 (by show 1 ≤ 8; decide) dL_law_763 (by decide) (by decide) hS1 hReg (fun rv2 σ2 H2 locs2 hq2 hR2 hS2 _ _ => ?_)
  obtain ⟨rfl, hi2⟩ := hq2
  show W p l e room_1 s m args below meth c H2 locs2 164 26813 Z (F0 m 766 lr [.int x, .int x])
  exact lv_icmp_eq hx hb dL_law_766 (tgt := 956) rfl (fun _ => kk σ2 H2 locs2 hi2 hR2 hS2) (fun z => absurd rfl z)
theorem cs_untell (he : LWe E b L xs p s m args c) (hS : va_S (fun q => s.heap.size ≤ q) s.heap H locs) (hL : lv_has lr 4 [(3, .int (nI n)), (2, .ref (E.2.2 0 0)), (1, .ref (E.2.2 1 0)), (0, .ref b)]) (hn : n + 6 ≤ L) (hi : Inv σ) (hR : Rep E σ H)
    (kk : ∀ (σ2 : HS) (H2 : Heap) (locs2 : List Loc), Inv σ2 → Rep E σ2 H2 → va_S (fun q => s.heap.size ≤ q) s.heap H2 locs2 → W p l e room_1 s m args below meth c H2 locs2 164 26813 Z (F0 m 956 lr [])) : W p l e room_1 s m args below meth c H locs 164 26813 Z (F0 m 771 lr []) := by
  have he0 := he
  obtain ⟨hx, hb, hml, hown, hts, hI, hK, hX, hbl, hReg, hL3⟩ := he
  refine lv_aload_n hx hb dL_law_771 rfl (lv_at hL 2 rfl) ?_
  refine L_arg (k := 1) he0 hS hL hn (by decide) rfl dL_law_772 dL_law_773 dL_law_774 dL_law_775 dL_law_776 ?_
  refine W_callV (cc := code) (nL := 4) (d := 61) (k := 1) (i := 0) (As := [vI (xs (n + 1))]) (rest := []) hx hb hml hown hts hI (he0.kk hS) hR (by decide) (by decide) (by decide) ml_L_97 rfl (Nat.le_of_ble_eq_true rfl) (by decide) (by decide) rfl cl_10.1 rfl (st_untell _ σ hi) hL.1 (by decide) dL_law_777 (by decide) (by decide) hS hReg (fun rv σ1 H1 locs1 hq hR1 hS1 _ _ => ?_)
  obtain ⟨x, rfl, hMT2⟩ := hq
  show W p l e room_1 s m args below meth c H1 locs1 164 26813 Z (F0 m 780 lr [.int x])
  refine lv_aload_n hx hb dL_law_780 rfl (lv_at hL 1 rfl) ?_
  refine L_arg (k := 1) he0 hS1 hL hn (by decide) rfl dL_law_781 dL_law_782 dL_law_783 dL_law_784 dL_law_785 ?_
  refine W_callV (cc := code) (nL := 4) (d := 61) (k := 0) (i := 0) (As := [vI (xs (n + 1))]) (rest := [.int x]) hx hb hml hown hts hI (he0.kk hS1) hR1 (by decide) (by decide) (by decide) ml_L_101 rfl (Nat.le_of_ble_eq_true rfl) (by decide) (by decide) rfl cl_11.1 rfl hMT2 hL.1 (by show 1 ≤ 8; decide) dL_law_786 (by decide) (by decide) hS1 hReg (fun rv2 σ2 H2 locs2 hq2 hR2 hS2 _ _ => ?_)
  obtain ⟨rfl, hi2⟩ := hq2
  show W p l e room_1 s m args below meth c H2 locs2 164 26813 Z (F0 m 789 lr [.int x, .int x])
  exact lv_icmp_eq hx hb dL_law_789 (tgt := 956) rfl (fun _ => kk σ2 H2 locs2 hi2 hR2 hS2) (fun z => absurd rfl z)
theorem cs_count (he : LWe E b L xs p s m args c) (hS : va_S (fun q => s.heap.size ≤ q) s.heap H locs) (hL : lv_has lr 4 [(3, .int (nI n)), (2, .ref (E.2.2 0 0)), (1, .ref (E.2.2 1 0)), (0, .ref b)]) (hn : n + 6 ≤ L) (hi : Inv σ) (hR : Rep E σ H)
    (kk : ∀ (σ2 : HS) (H2 : Heap) (locs2 : List Loc), Inv σ2 → Rep E σ2 H2 → va_S (fun q => s.heap.size ≤ q) s.heap H2 locs2 → W p l e room_1 s m args below meth c H2 locs2 164 26813 Z (F0 m 956 lr [])) : W p l e room_1 s m args below meth c H locs 164 26813 Z (F0 m 794 lr []) := by
  have he0 := he
  obtain ⟨hx, hb, hml, hown, hts, hI, hK, hX, hbl, hReg, hL3⟩ := he
  refine lv_aload_n hx hb dL_law_794 rfl (lv_at hL 2 rfl) ?_
  refine L_arg (k := 1) he0 hS hL hn (by decide) rfl dL_law_795 dL_law_796 dL_law_797 dL_law_798 dL_law_799 ?_
  refine L_arg (k := 2) he0 hS hL hn (by decide) rfl dL_law_800 dL_law_801 dL_law_802 dL_law_803 dL_law_804 ?_
  refine L_arg (k := 3) he0 hS hL hn (by decide) rfl dL_law_805 dL_law_806 dL_law_807 dL_law_808 dL_law_809 ?_
  refine L_arg (k := 4) he0 hS hL hn (by decide) rfl dL_law_810 dL_law_811 dL_law_812 dL_law_813 dL_law_814 ?_
  refine W_callV (cc := code) (nL := 4) (d := 61) (k := 1) (i := 0) (As := [vI (xs (n + 1)), vI (xs (n + 2)), vI (xs (n + 3)), vI (xs (n + 4))]) (rest := []) hx hb hml hown hts hI (he0.kk hS) hR (by decide) (by decide) (by decide) ml_L_102 rfl (Nat.le_of_ble_eq_true rfl) (by decide) (by decide) rfl cl_10.1 rfl (st_count _ _ _ _ σ hi) hL.1 (by decide) dL_law_815 (by decide) (by decide) hS hReg (fun rv σ1 H1 locs1 hq hR1 hS1 _ _ => ?_)
  obtain ⟨x, rfl, hMT2⟩ := hq
  show W p l e room_1 s m args below meth c H1 locs1 164 26813 Z (F0 m 818 lr [.int x])
  refine lv_aload_n hx hb dL_law_818 rfl (lv_at hL 1 rfl) ?_
  refine L_arg (k := 1) he0 hS1 hL hn (by decide) rfl dL_law_819 dL_law_820 dL_law_821 dL_law_822 dL_law_823 ?_
  refine L_arg (k := 2) he0 hS1 hL hn (by decide) rfl dL_law_824 dL_law_825 dL_law_826 dL_law_827 dL_law_828 ?_
  refine L_arg (k := 3) he0 hS1 hL hn (by decide) rfl dL_law_829 dL_law_830 dL_law_831 dL_law_832 dL_law_833 ?_
  refine L_arg (k := 4) he0 hS1 hL hn (by decide) rfl dL_law_834 dL_law_835 dL_law_836 dL_law_837 dL_law_838 ?_
  refine W_callV (cc := code) (nL := 4) (d := 61) (k := 0) (i := 0) (As := [vI (xs (n + 1)), vI (xs (n + 2)), vI (xs (n + 3)), vI (xs (n + 4))]) (rest := [.int x]) hx hb hml hown hts hI (he0.kk hS1) hR1 (by decide) (by decide) (by decide) ml_L_105 rfl (Nat.le_of_ble_eq_true rfl) (by decide) (by decide) rfl cl_11.1 rfl hMT2 hL.1 (by show 1 ≤ 8; decide) dL_law_839 (by decide) (by decide) hS1 hReg (fun rv2 σ2 H2 locs2 hq2 hR2 hS2 _ _ => ?_)
  obtain ⟨rfl, hi2⟩ := hq2
  show W p l e room_1 s m args below meth c H2 locs2 164 26813 Z (F0 m 842 lr [.int x, .int x])
  exact lv_icmp_eq hx hb dL_law_842 (tgt := 956) rfl (fun _ => kk σ2 H2 locs2 hi2 hR2 hS2) (fun z => absurd rfl z)
theorem cs_agree (he : LWe E b L xs p s m args c) (hS : va_S (fun q => s.heap.size ≤ q) s.heap H locs) (hL : lv_has lr 4 [(3, .int (nI n)), (2, .ref (E.2.2 0 0)), (1, .ref (E.2.2 1 0)), (0, .ref b)]) (hn : n + 6 ≤ L) (hi : Inv σ) (hR : Rep E σ H)
    (kk : ∀ (σ2 : HS) (H2 : Heap) (locs2 : List Loc), Inv σ2 → Rep E σ2 H2 → va_S (fun q => s.heap.size ≤ q) s.heap H2 locs2 → W p l e room_1 s m args below meth c H2 locs2 164 26813 Z (F0 m 956 lr [])) : W p l e room_1 s m args below meth c H locs 164 26813 Z (F0 m 847 lr []) := by
  have he0 := he
  obtain ⟨hx, hb, hml, hown, hts, hI, hK, hX, hbl, hReg, hL3⟩ := he
  refine lv_aload_n hx hb dL_law_847 rfl (lv_at hL 2 rfl) ?_
  refine L_arg (k := 1) he0 hS hL hn (by decide) rfl dL_law_848 dL_law_849 dL_law_850 dL_law_851 dL_law_852 ?_
  refine L_arg (k := 2) he0 hS hL hn (by decide) rfl dL_law_853 dL_law_854 dL_law_855 dL_law_856 dL_law_857 ?_
  refine L_arg (k := 3) he0 hS hL hn (by decide) rfl dL_law_858 dL_law_859 dL_law_860 dL_law_861 dL_law_862 ?_
  refine L_arg (k := 4) he0 hS hL hn (by decide) rfl dL_law_863 dL_law_864 dL_law_865 dL_law_866 dL_law_867 ?_
  refine W_callV (cc := code) (nL := 4) (d := 61) (k := 1) (i := 0) (As := [vI (xs (n + 1)), vI (xs (n + 2)), vI (xs (n + 3)), vI (xs (n + 4))]) (rest := []) hx hb hml hown hts hI (he0.kk hS) hR (by decide) (by decide) (by decide) ml_L_106 rfl (Nat.le_of_ble_eq_true rfl) (by decide) (by decide) rfl cl_10.1 rfl (st_agree _ _ _ _ σ hi) hL.1 (by decide) dL_law_868 (by decide) (by decide) hS hReg (fun rv σ1 H1 locs1 hq hR1 hS1 _ _ => ?_)
  obtain ⟨x, rfl, hMT2⟩ := hq
  show W p l e room_1 s m args below meth c H1 locs1 164 26813 Z (F0 m 871 lr [.int x])
  refine lv_aload_n hx hb dL_law_871 rfl (lv_at hL 1 rfl) ?_
  refine L_arg (k := 1) he0 hS1 hL hn (by decide) rfl dL_law_872 dL_law_873 dL_law_874 dL_law_875 dL_law_876 ?_
  refine L_arg (k := 2) he0 hS1 hL hn (by decide) rfl dL_law_877 dL_law_878 dL_law_879 dL_law_880 dL_law_881 ?_
  refine L_arg (k := 3) he0 hS1 hL hn (by decide) rfl dL_law_882 dL_law_883 dL_law_884 dL_law_885 dL_law_886 ?_
  refine L_arg (k := 4) he0 hS1 hL hn (by decide) rfl dL_law_887 dL_law_888 dL_law_889 dL_law_890 dL_law_891 ?_
  refine W_callV (cc := code) (nL := 4) (d := 61) (k := 0) (i := 0) (As := [vI (xs (n + 1)), vI (xs (n + 2)), vI (xs (n + 3)), vI (xs (n + 4))]) (rest := [.int x]) hx hb hml hown hts hI (he0.kk hS1) hR1 (by decide) (by decide) (by decide) ml_L_109 rfl (Nat.le_of_ble_eq_true rfl) (by decide) (by decide) rfl cl_11.1 rfl hMT2 hL.1 (by show 1 ≤ 8; decide) dL_law_892 (by decide) (by decide) hS1 hReg (fun rv2 σ2 H2 locs2 hq2 hR2 hS2 _ _ => ?_)
  obtain ⟨rfl, hi2⟩ := hq2
  show W p l e room_1 s m args below meth c H2 locs2 164 26813 Z (F0 m 895 lr [.int x, .int x])
  exact lv_icmp_eq hx hb dL_law_895 (tgt := 956) rfl (fun _ => kk σ2 H2 locs2 hi2 hR2 hS2) (fun z => absurd rfl z)
theorem cs_of (he : LWe E b L xs p s m args c) (hS : va_S (fun q => s.heap.size ≤ q) s.heap H locs) (hL : lv_has lr 4 [(3, .int (nI n)), (2, .ref (E.2.2 0 0)), (1, .ref (E.2.2 1 0)), (0, .ref b)]) (hn : n + 6 ≤ L) (hi : Inv σ) (hR : Rep E σ H)
    (kk : ∀ (σ2 : HS) (H2 : Heap) (locs2 : List Loc), Inv σ2 → Rep E σ2 H2 → va_S (fun q => s.heap.size ≤ q) s.heap H2 locs2 → W p l e room_1 s m args below meth c H2 locs2 164 26813 Z (F0 m 956 lr [])) : W p l e room_1 s m args below meth c H locs 164 26813 Z (F0 m 900 lr []) := by
  have he0 := he
  obtain ⟨hx, hb, hml, hown, hts, hI, hK, hX, hbl, hReg, hL3⟩ := he
  refine lv_aload_n hx hb dL_law_900 rfl (lv_at hL 2 rfl) ?_
  refine L_arg (k := 1) he0 hS hL hn (by decide) rfl dL_law_901 dL_law_902 dL_law_903 dL_law_904 dL_law_905 ?_
  refine L_arg (k := 2) he0 hS hL hn (by decide) rfl dL_law_906 dL_law_907 dL_law_908 dL_law_909 dL_law_910 ?_
  refine W_callV (cc := code) (nL := 4) (d := 61) (k := 1) (i := 0) (As := [vI (xs (n + 1)), vI (xs (n + 2))]) (rest := []) hx hb hml hown hts hI (he0.kk hS) hR (by decide) (by decide) (by decide) ml_L_110 rfl (Nat.le_of_ble_eq_true rfl) (by decide) (by decide) rfl cl_10.1 rfl (st_of _ _ σ hi) hL.1 (by decide) dL_law_911 (by decide) (by decide) hS hReg (fun rv σ1 H1 locs1 hq hR1 hS1 _ _ => ?_)
  obtain ⟨x, rfl, hMT2⟩ := hq
  show W p l e room_1 s m args below meth c H1 locs1 164 26813 Z (F0 m 914 lr [.int x])
  refine lv_aload_n hx hb dL_law_914 rfl (lv_at hL 1 rfl) ?_
  refine L_arg (k := 1) he0 hS1 hL hn (by decide) rfl dL_law_915 dL_law_916 dL_law_917 dL_law_918 dL_law_919 ?_
  refine L_arg (k := 2) he0 hS1 hL hn (by decide) rfl dL_law_920 dL_law_921 dL_law_922 dL_law_923 dL_law_924 ?_
  refine W_callV (cc := code) (nL := 4) (d := 61) (k := 0) (i := 0) (As := [vI (xs (n + 1)), vI (xs (n + 2))]) (rest := [.int x]) hx hb hml hown hts hI (he0.kk hS1) hR1 (by decide) (by decide) (by decide) ml_L_114 rfl (Nat.le_of_ble_eq_true rfl) (by decide) (by decide) rfl cl_11.1 rfl hMT2 hL.1 (by show 1 ≤ 8; decide) dL_law_925 (by decide) (by decide) hS1 hReg (fun rv2 σ2 H2 locs2 hq2 hR2 hS2 _ _ => ?_)
  obtain ⟨rfl, hi2⟩ := hq2
  show W p l e room_1 s m args below meth c H2 locs2 164 26813 Z (F0 m 928 lr [.int x, .int x])
  exact lv_icmp_eq hx hb dL_law_928 (tgt := 956) rfl (fun _ => kk σ2 H2 locs2 hi2 hR2 hS2) (fun z => absurd rfl z)
theorem cs_about (he : LWe E b L xs p s m args c) (hS : va_S (fun q => s.heap.size ≤ q) s.heap H locs) (hL : lv_has lr 4 [(3, .int (nI n)), (2, .ref (E.2.2 0 0)), (1, .ref (E.2.2 1 0)), (0, .ref b)]) (hn : n + 6 ≤ L) (hi : Inv σ) (hR : Rep E σ H)
    (kk : ∀ (σ2 : HS) (H2 : Heap) (locs2 : List Loc), Inv σ2 → Rep E σ2 H2 → va_S (fun q => s.heap.size ≤ q) s.heap H2 locs2 → W p l e room_1 s m args below meth c H2 locs2 164 26813 Z (F0 m 956 lr [])) : W p l e room_1 s m args below meth c H locs 164 26813 Z (F0 m 933 lr []) := by
  have he0 := he
  obtain ⟨hx, hb, hml, hown, hts, hI, hK, hX, hbl, hReg, hL3⟩ := he
  refine lv_aload_n hx hb dL_law_933 rfl (lv_at hL 2 rfl) ?_
  refine L_arg (k := 1) he0 hS hL hn (by decide) rfl dL_law_934 dL_law_935 dL_law_936 dL_law_937 dL_law_938 ?_
  refine W_callV (cc := code) (nL := 4) (d := 61) (k := 1) (i := 0) (As := [vI (xs (n + 1))]) (rest := []) hx hb hml hown hts hI (he0.kk hS) hR (by decide) (by decide) (by decide) ml_L_115 rfl (Nat.le_of_ble_eq_true rfl) (by decide) (by decide) rfl cl_10.1 rfl (st_about _ σ hi) hL.1 (by decide) dL_law_939 (by decide) (by decide) hS hReg (fun rv σ1 H1 locs1 hq hR1 hS1 _ _ => ?_)
  obtain ⟨x, rfl, hMT2⟩ := hq
  show W p l e room_1 s m args below meth c H1 locs1 164 26813 Z (F0 m 942 lr [.int x])
  refine lv_aload_n hx hb dL_law_942 rfl (lv_at hL 1 rfl) ?_
  refine L_arg (k := 1) he0 hS1 hL hn (by decide) rfl dL_law_943 dL_law_944 dL_law_945 dL_law_946 dL_law_947 ?_
  refine W_callV (cc := code) (nL := 4) (d := 61) (k := 0) (i := 0) (As := [vI (xs (n + 1))]) (rest := [.int x]) hx hb hml hown hts hI (he0.kk hS1) hR1 (by decide) (by decide) (by decide) ml_L_118 rfl (Nat.le_of_ble_eq_true rfl) (by decide) (by decide) rfl cl_11.1 rfl hMT2 hL.1 (by show 1 ≤ 8; decide) dL_law_948 (by decide) (by decide) hS1 hReg (fun rv2 σ2 H2 locs2 hq2 hR2 hS2 _ _ => ?_)
  obtain ⟨rfl, hi2⟩ := hq2
  show W p l e room_1 s m args below meth c H2 locs2 164 26813 Z (F0 m 951 lr [.int x, .int x])
  exact lv_icmp_eq hx hb dL_law_951 (tgt := 956) rfl (fun _ => kk σ2 H2 locs2 hi2 hR2 hS2) (fun z => absurd rfl z)
end LAWC
