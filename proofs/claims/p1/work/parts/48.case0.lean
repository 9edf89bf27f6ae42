set_option maxHeartbeats 4000000 in
set_option maxRecDepth 100000 in
theorem law_c0 {p : Program} {l : Launch} {e : Env} {s : State} {m : MethodId} {below : List Frame} {meth : Method} {c : Code} {b : Nat} {xs : Nat → Int32} {H : Heap} {locs : List Loc} {ls : Array Slot} {A : Nat → Prop} (hx : p.tables.exec = Jvm.exec) (hb : c.code = cL_law) (hr : meth.sig.returnType = ret) (hml : c.maxLocals = 4) (hlocks : meth.locks = false) {D : va_G} {cI cB cZ cJ cT : ClassId} {h : Nat} {a q : Nat → Nat} {f g1 g2 : Nat → Int32} (hown : s.vm.findClass RL = some m.cls) (hts : ∀ w ∈ TBL, w.before #[Value.ref b] s = true) (hK : KX D cI cB cZ cJ [(cT, .object "NailStain$Text")] s) (hP : va_P D vwCl (xW cI cB cZ cJ cT a f ++ mW cI cB cZ cJ h q g1 g2 i0) H) (hD : va_D A (xW cI cB cZ cJ cT a f ++ mW cI cB cZ cJ h q g1 g2 i0)) (hX : va_X b 7 xs s s.heap) (hbl : b < s.heap.size) (hbA : ¬ A b) (hA : ∀ q, s.heap.size ≤ q → A q) (hA2 : ∀ q, A q → s.heap.size ≤ q) (hS : va_S A s.heap H locs) (hl : lv_has ls 4 [(3, .int 0), (2, .ref h), (1, .ref (a 0)), (0, .ref b)]) : W p l e room_1 s m #[Value.ref b] below meth c H locs 116 197732 (lw_Z below #[Value.ref b] s) (F0 m 220 ls []) := by
  have hP := hP.sub (ws' := [(a 0, .inr (11, [.ref (a 1), .ref (a 2), .ref (a 3), .ref (a 4), .ref (a 5), .ref (a 6), .ref (a 7), .ref (a 8), .ref (a 9), .ref (a 10), .ref (a 11), .ref (a 12), .int 100])), (h, .inr (12, mG q i0))]) [0, 27] rfl
  have hD := hD.sub (ws' := [(a 0, .inr (11, [.ref (a 1), .ref (a 2), .ref (a 3), .ref (a 4), .ref (a 5), .ref (a 6), .ref (a 7), .ref (a 8), .ref (a 9), .ref (a 10), .ref (a 11), .ref (a 12), .int 100])), (h, .inr (12, mG q i0))]) [0, 27] (by decide) rfl
  refine lv_aload_n hx hb dL_law_220 rfl (lv_at hl 2 rfl) ?_
  refine lv_aload_n hx hb dL_law_221 rfl (lv_at hl 3 rfl) ?_
  refine lv_iload_n hx hb dL_law_222 rfl (lv_at hl 0 rfl) ?_
  refine lv_iconst (v := 1) hx hb dL_law_223 (by decide) ?_
  refine lv_iadd hx hb dL_law_224 ?_
  refine lv_topv (y := 1) (by decide) ?_
  refine va_sld hx hb hX hbl hbA hS (by unfold vp_in; decide) dL_law_225 ?_
  refine lv_topv (y := xs 1) (congrArg xs (by decide)) ?_
  refine eWi (wr := [(h, .inr (12, mG q i0))]) (va_runV (As := [.int (xs 1)]) (rest := []) ⟨hx, hb, hml, hown, hts⟩ (c_X11_pitch l D cI cB cZ cJ [(cT, .object "NailStain$Text")] a (xs 1) H.size) (zV hts k_523 v_X11_pitch ⟨Nat.le_of_ble_eq_true rfl, Nat.le_of_ble_eq_true rfl⟩) (pV (pxS hK hP hD [0] (by decide) rfl) hK hP 0 rfl rfl) rfl rfl hl.1 rfl (lv_room (Nat.le_of_ble_eq_true rfl)) dL_law_226 ⟨Nat.le_of_ble_eq_true rfl, Nat.le_of_ble_eq_true rfl⟩) hP hD hS hA [0] [1] rfl rfl (by decide) (by decide) (fun r_1 u_2 H locs wr_1 hP hD hS => ?_)
  have hP : va_P D vwCl [(h, .inr (12, mG q i0))] H := hP
  have hD : va_D A [(h, .inr (12, mG q i0))] := hD
  subst wr_1
  refine lv_aload_n hx hb dL_law_229 rfl (lv_at hl 1 rfl) ?_
  refine lv_aload_n hx hb dL_law_230 rfl (lv_at hl 3 rfl) ?_
  refine lv_iload_n hx hb dL_law_231 rfl (lv_at hl 0 rfl) ?_
  refine lv_iconst (v := 1) hx hb dL_law_232 (by decide) ?_
  refine lv_iadd hx hb dL_law_233 ?_
  refine lv_topv (y := 1) (by decide) ?_
  refine va_sld hx hb hX hbl hbA hS (by unfold vp_in; decide) dL_law_234 ?_
  refine lv_topv (y := xs 1) (congrArg xs (by decide)) ?_
  refine eWi (wr := []) (va_runV (As := [.int (xs 1)]) (rest := [.int (bi (1 ≤ (xs 1) ∧ (xs 1) ≤ 1000))]) ⟨hx, hb, hml, hown, hts⟩ (c_X12_pitch l D cI cB cZ cJ [(cT, .object "NailStain$Text")] h q i0 (xs 1) H.size) (zV hts k_1597 v_X12_pitch ⟨Nat.le_of_ble_eq_true rfl, Nat.le_of_ble_eq_true rfl⟩) (pV (pxS hK hP hD [0] (by decide) rfl) hK hP 0 rfl rfl) rfl rfl hl.1 rfl (lv_room (Nat.le_of_ble_eq_true rfl)) dL_law_235 ⟨Nat.le_of_ble_eq_true rfl, Nat.le_of_ble_eq_true rfl⟩) hP hD hS hA [0] [] rfl rfl (by decide) (by decide) (fun r_3 u_4 H locs wr_3 hP hD hS => ?_)
  have hP : va_P D vwCl [] H := hP
  have hD : va_D A [] := hD
  subst wr_3
  refine lv_icmp_eq (tgt := 1939) hx hb dL_law_238 (by decide) (fun _ => ?_) (fun c => absurd rfl c)
  exact law_end hx hb hr hml hlocks hX hbl hbA hA hA2 hS hl

set_option maxHeartbeats 4000000 in
set_option maxRecDepth 100000 in
theorem law_c1 {p : Program} {l : Launch} {e : Env} {s : State} {m : MethodId} {below : List Frame} {meth : Method} {c : Code} {b : Nat} {xs : Nat → Int32} {H : Heap} {locs : List Loc} {ls : Array Slot} {A : Nat → Prop} (hx : p.tables.exec = Jvm.exec) (hb : c.code = cL_law) (hr : meth.sig.returnType = ret) (hml : c.maxLocals = 4) (hlocks : meth.locks = false) {D : va_G} {cI cB cZ cJ cT : ClassId} {h : Nat} {a q : Nat → Nat} {f g1 g2 : Nat → Int32} (hown : s.vm.findClass RL = some m.cls) (hts : ∀ w ∈ TBL, w.before #[Value.ref b] s = true) (hK : KX D cI cB cZ cJ [(cT, .object "NailStain$Text")] s) (hP : va_P D vwCl (xW cI cB cZ cJ cT a f ++ mW cI cB cZ cJ h q g1 g2 i0) H) (hD : va_D A (xW cI cB cZ cJ cT a f ++ mW cI cB cZ cJ h q g1 g2 i0)) (hX : va_X b 7 xs s s.heap) (hbl : b < s.heap.size) (hbA : ¬ A b) (hA : ∀ q, s.heap.size ≤ q → A q) (hA2 : ∀ q, A q → s.heap.size ≤ q) (hS : va_S A s.heap H locs) (hl : lv_has ls 4 [(3, .int 0), (2, .ref h), (1, .ref (a 0)), (0, .ref b)]) : W p l e room_1 s m #[Value.ref b] below meth c H locs 116 197732 (lw_Z below #[Value.ref b] s) (F0 m 243 ls []) := by
  have hP := hP.sub (ws' := [(a 0, .inr (11, [.ref (a 1), .ref (a 2), .ref (a 3), .ref (a 4), .ref (a 5), .ref (a 6), .ref (a 7), .ref (a 8), .ref (a 9), .ref (a 10), .ref (a 11), .ref (a 12), .int 100])), (a 5, .inr (4, [.ref (a 18), .ref (a 19), .ref (a 20), .ref (a 21), .ref (a 22), .ref (a 23), .ref (a 24), .int 0, .int 0, .int 0, .int 1])), (h, .inr (12, mG q i0))]) [0, 4, 27] rfl
  have hD := hD.sub (ws' := [(a 0, .inr (11, [.ref (a 1), .ref (a 2), .ref (a 3), .ref (a 4), .ref (a 5), .ref (a 6), .ref (a 7), .ref (a 8), .ref (a 9), .ref (a 10), .ref (a 11), .ref (a 12), .int 100])), (a 5, .inr (4, [.ref (a 18), .ref (a 19), .ref (a 20), .ref (a 21), .ref (a 22), .ref (a 23), .ref (a 24), .int 0, .int 0, .int 0, .int 1])), (h, .inr (12, mG q i0))]) [0, 4, 27] (by decide) rfl
  refine lv_aload_n hx hb dL_law_243 rfl (lv_at hl 2 rfl) ?_
  refine lv_aload_n hx hb dL_law_244 rfl (lv_at hl 3 rfl) ?_
  refine lv_iload_n hx hb dL_law_245 rfl (lv_at hl 0 rfl) ?_
  refine lv_iconst (v := 1) hx hb dL_law_246 (by decide) ?_
  refine lv_iadd hx hb dL_law_247 ?_
  refine lv_topv (y := 1) (by decide) ?_
  refine va_sld hx hb hX hbl hbA hS (by unfold vp_in; decide) dL_law_248 ?_
  refine lv_topv (y := xs 1) (congrArg xs (by decide)) ?_
  refine eWi (wr := [(h, .inr (12, mG q i0))]) (va_runV (As := [.int (xs 1)]) (rest := []) ⟨hx, hb, hml, hown, hts⟩ (c_X11_seed l D cI cB cZ cJ [(cT, .object "NailStain$Text")] a (xs 1) H.size) (zV hts k_530 v_X11_seed ⟨Nat.le_of_ble_eq_true rfl, Nat.le_of_ble_eq_true rfl⟩) (pV (pxS hK hP hD [0, 1] (by decide) rfl) hK hP 0 rfl rfl) rfl rfl hl.1 rfl (lv_room (Nat.le_of_ble_eq_true rfl)) dL_law_249 ⟨Nat.le_of_ble_eq_true rfl, Nat.le_of_ble_eq_true rfl⟩) hP hD hS hA [0, 1] [2] rfl rfl (by decide) (by decide) (fun r_1 u_2 H locs wr_1 hP hD hS => ?_)
  have hP : va_P D vwCl [(h, .inr (12, mG q i0))] H := hP
  have hD : va_D A [(h, .inr (12, mG q i0))] := hD
  subst wr_1
  refine lv_aload_n hx hb dL_law_252 rfl (lv_at hl 1 rfl) ?_
  refine lv_aload_n hx hb dL_law_253 rfl (lv_at hl 3 rfl) ?_
  refine lv_iload_n hx hb dL_law_254 rfl (lv_at hl 0 rfl) ?_
  refine lv_iconst (v := 1) hx hb dL_law_255 (by decide) ?_
  refine lv_iadd hx hb dL_law_256 ?_
  refine lv_topv (y := 1) (by decide) ?_
  refine va_sld hx hb hX hbl hbA hS (by unfold vp_in; decide) dL_law_257 ?_
  refine lv_topv (y := xs 1) (congrArg xs (by decide)) ?_
  refine eWi (wr := []) (va_runV (As := [.int (xs 1)]) (rest := [.int (bi (0 ≤ (xs 1) ∧ (xs 1) ≤ 65535))]) ⟨hx, hb, hml, hown, hts⟩ (c_X12_seed l D cI cB cZ cJ [(cT, .object "NailStain$Text")] h q i0 (xs 1) H.size) (zV hts k_1605 v_X12_seed ⟨Nat.le_of_ble_eq_true rfl, Nat.le_of_ble_eq_true rfl⟩) (pV (pxS hK hP hD [0] (by decide) rfl) hK hP 0 rfl rfl) rfl rfl hl.1 rfl (lv_room (Nat.le_of_ble_eq_true rfl)) dL_law_258 ⟨Nat.le_of_ble_eq_true rfl, Nat.le_of_ble_eq_true rfl⟩) hP hD hS hA [0] [] rfl rfl (by decide) (by decide) (fun r_3 u_4 H locs wr_3 hP hD hS => ?_)
  have hP : va_P D vwCl [] H := hP
  have hD : va_D A [] := hD
  subst wr_3
  refine lv_icmp_eq (tgt := 1939) hx hb dL_law_261 (by decide) (fun _ => ?_) (fun c => absurd rfl c)
  exact law_end hx hb hr hml hlocks hX hbl hbA hA hA2 hS hl

set_option maxHeartbeats 4000000 in
set_option maxRecDepth 100000 in
theorem law_c2 {p : Program} {l : Launch} {e : Env} {s : State} {m : MethodId} {below : List Frame} {meth : Method} {c : Code} {b : Nat} {xs : Nat → Int32} {H : Heap} {locs : List Loc} {ls : Array Slot} {A : Nat → Prop} (hx : p.tables.exec = Jvm.exec) (hb : c.code = cL_law) (hr : meth.sig.returnType = ret) (hml : c.maxLocals = 4) (hlocks : meth.locks = false) {D : va_G} {cI cB cZ cJ cT : ClassId} {h : Nat} {a q : Nat → Nat} {f g1 g2 : Nat → Int32} (hown : s.vm.findClass RL = some m.cls) (hts : ∀ w ∈ TBL, w.before #[Value.ref b] s = true) (hK : KX D cI cB cZ cJ [(cT, .object "NailStain$Text")] s) (hP : va_P D vwCl (xW cI cB cZ cJ cT a f ++ mW cI cB cZ cJ h q g1 g2 i0) H) (hD : va_D A (xW cI cB cZ cJ cT a f ++ mW cI cB cZ cJ h q g1 g2 i0)) (hX : va_X b 7 xs s s.heap) (hbl : b < s.heap.size) (hbA : ¬ A b) (hA : ∀ q, s.heap.size ≤ q → A q) (hA2 : ∀ q, A q → s.heap.size ≤ q) (hS : va_S A s.heap H locs) (hl : lv_has ls 4 [(3, .int 0), (2, .ref h), (1, .ref (a 0)), (0, .ref b)]) : W p l e room_1 s m #[Value.ref b] below meth c H locs 116 197732 (lw_Z below #[Value.ref b] s) (F0 m 266 ls []) := by
  have hP := hP.sub (ws' := [(a 0, .inr (11, [.ref (a 1), .ref (a 2), .ref (a 3), .ref (a 4), .ref (a 5), .ref (a 6), .ref (a 7), .ref (a 8), .ref (a 9), .ref (a 10), .ref (a 11), .ref (a 12), .int 100])), (a 1, .inr (8, [.ref (a 17), .int 0])), (a 17, .inl (cB, 220, .inl (fun _ => 0))), (h, .inr (12, mG q i0)), (q 0, .inl (cB, 220, .inl (fun _ => 0)))]) [0, 1, 14, 27, 28] rfl
  have hD := hD.sub (ws' := [(a 0, .inr (11, [.ref (a 1), .ref (a 2), .ref (a 3), .ref (a 4), .ref (a 5), .ref (a 6), .ref (a 7), .ref (a 8), .ref (a 9), .ref (a 10), .ref (a 11), .ref (a 12), .int 100])), (a 1, .inr (8, [.ref (a 17), .int 0])), (a 17, .inl (cB, 220, .inl (fun _ => 0))), (h, .inr (12, mG q i0)), (q 0, .inl (cB, 220, .inl (fun _ => 0)))]) [0, 1, 14, 27, 28] (by decide) rfl
  refine lv_aload_n hx hb dL_law_266 rfl (lv_at hl 2 rfl) ?_
  refine lv_aload_n hx hb dL_law_267 rfl (lv_at hl 3 rfl) ?_
  refine lv_iload_n hx hb dL_law_268 rfl (lv_at hl 0 rfl) ?_
  refine lv_iconst (v := 1) hx hb dL_law_269 (by decide) ?_
  refine lv_iadd hx hb dL_law_270 ?_
  refine lv_topv (y := 1) (by decide) ?_
  refine va_sld hx hb hX hbl hbA hS (by unfold vp_in; decide) dL_law_271 ?_
  refine lv_topv (y := xs 1) (congrArg xs (by decide)) ?_
  refine lv_aload_n hx hb dL_law_272 rfl (lv_at hl 3 rfl) ?_
  refine lv_iload_n hx hb dL_law_273 rfl (lv_at hl 0 rfl) ?_
  refine lv_iconst (v := 2) hx hb dL_law_274 (by decide) ?_
  refine lv_iadd hx hb dL_law_275 ?_
  refine lv_topv (y := 2) (by decide) ?_
  refine va_sld hx hb hX hbl hbA hS (by unfold vp_in; decide) dL_law_276 ?_
  refine lv_topv (y := xs 2) (congrArg xs (by decide)) ?_
  refine lv_aload_n hx hb dL_law_277 rfl (lv_at hl 3 rfl) ?_
  refine lv_iload_n hx hb dL_law_278 rfl (lv_at hl 0 rfl) ?_
  refine lv_iconst (v := 3) hx hb dL_law_279 (by decide) ?_
  refine lv_iadd hx hb dL_law_280 ?_
  refine lv_topv (y := 3) (by decide) ?_
  refine va_sld hx hb hX hbl hbA hS (by unfold vp_in; decide) dL_law_281 ?_
  refine lv_topv (y := xs 3) (congrArg xs (by decide)) ?_
  refine lv_aload_n hx hb dL_law_282 rfl (lv_at hl 3 rfl) ?_
  refine lv_iload_n hx hb dL_law_283 rfl (lv_at hl 0 rfl) ?_
  refine lv_iconst (v := 4) hx hb dL_law_284 (by decide) ?_
  refine lv_iadd hx hb dL_law_285 ?_
  refine lv_topv (y := 4) (by decide) ?_
  refine va_sld hx hb hX hbl hbA hS (by unfold vp_in; decide) dL_law_286 ?_
  refine lv_topv (y := xs 4) (congrArg xs (by decide)) ?_
  refine lv_aload_n hx hb dL_law_287 rfl (lv_at hl 3 rfl) ?_
  refine lv_iload_n hx hb dL_law_288 rfl (lv_at hl 0 rfl) ?_
  refine lv_iconst (v := 5) hx hb dL_law_289 (by decide) ?_
  refine lv_iadd hx hb dL_law_290 ?_
  refine lv_topv (y := 5) (by decide) ?_
  refine va_sld hx hb hX hbl hbA hS (by unfold vp_in; decide) dL_law_291 ?_
  refine lv_topv (y := xs 5) (congrArg xs (by decide)) ?_
  refine eWi (wr := [(h, .inr (12, mG q i0)), (q 0, .inl (cB, 220, .inl (fun _ => 0)))]) (va_runV (As := [.int (xs 1), .int (xs 2), .int (xs 3), .int (xs 4), .int (xs 5)]) (rest := []) ⟨hx, hb, hml, hown, hts⟩ (c_X11_feed l D cI cB cZ cJ [(cT, .object "NailStain$Text")] a (xs 1) (xs 2) (xs 3) (xs 4) (xs 5) H.size) (zV hts k_535 v_X11_feed ⟨Nat.le_of_ble_eq_true rfl, Nat.le_of_ble_eq_true rfl⟩) (pV (pxS hK hP hD [0, 1, 2] (by decide) rfl) hK hP 0 rfl rfl) rfl rfl hl.1 rfl (lv_room (Nat.le_of_ble_eq_true rfl)) dL_law_292 ⟨Nat.le_of_ble_eq_true rfl, Nat.le_of_ble_eq_true rfl⟩) hP hD hS hA [0, 1, 2] [3, 4] rfl rfl (by decide) (by decide) (fun r_1 u_2 H locs wr_1 hP hD hS => ?_)
  have hP : va_P D vwCl [(h, .inr (12, mG q i0)), (q 0, .inl (cB, 220, .inl (fun _ => 0)))] H := hP
  have hD : va_D A [(h, .inr (12, mG q i0)), (q 0, .inl (cB, 220, .inl (fun _ => 0)))] := hD
  subst wr_1
  refine lv_aload_n hx hb dL_law_295 rfl (lv_at hl 1 rfl) ?_
  refine lv_aload_n hx hb dL_law_296 rfl (lv_at hl 3 rfl) ?_
  refine lv_iload_n hx hb dL_law_297 rfl (lv_at hl 0 rfl) ?_
  refine lv_iconst (v := 1) hx hb dL_law_298 (by decide) ?_
  refine lv_iadd hx hb dL_law_299 ?_
  refine lv_topv (y := 1) (by decide) ?_
  refine va_sld hx hb hX hbl hbA hS (by unfold vp_in; decide) dL_law_300 ?_
  refine lv_topv (y := xs 1) (congrArg xs (by decide)) ?_
  refine lv_aload_n hx hb dL_law_301 rfl (lv_at hl 3 rfl) ?_
  refine lv_iload_n hx hb dL_law_302 rfl (lv_at hl 0 rfl) ?_
  refine lv_iconst (v := 2) hx hb dL_law_303 (by decide) ?_
  refine lv_iadd hx hb dL_law_304 ?_
  refine lv_topv (y := 2) (by decide) ?_
  refine va_sld hx hb hX hbl hbA hS (by unfold vp_in; decide) dL_law_305 ?_
  refine lv_topv (y := xs 2) (congrArg xs (by decide)) ?_
  refine lv_aload_n hx hb dL_law_306 rfl (lv_at hl 3 rfl) ?_
  refine lv_iload_n hx hb dL_law_307 rfl (lv_at hl 0 rfl) ?_
  refine lv_iconst (v := 3) hx hb dL_law_308 (by decide) ?_
  refine lv_iadd hx hb dL_law_309 ?_
  refine lv_topv (y := 3) (by decide) ?_
  refine va_sld hx hb hX hbl hbA hS (by unfold vp_in; decide) dL_law_310 ?_
  refine lv_topv (y := xs 3) (congrArg xs (by decide)) ?_
  refine lv_aload_n hx hb dL_law_311 rfl (lv_at hl 3 rfl) ?_
  refine lv_iload_n hx hb dL_law_312 rfl (lv_at hl 0 rfl) ?_
  refine lv_iconst (v := 4) hx hb dL_law_313 (by decide) ?_
  refine lv_iadd hx hb dL_law_314 ?_
  refine lv_topv (y := 4) (by decide) ?_
  refine va_sld hx hb hX hbl hbA hS (by unfold vp_in; decide) dL_law_315 ?_
  refine lv_topv (y := xs 4) (congrArg xs (by decide)) ?_
  refine lv_aload_n hx hb dL_law_316 rfl (lv_at hl 3 rfl) ?_
  refine lv_iload_n hx hb dL_law_317 rfl (lv_at hl 0 rfl) ?_
  refine lv_iconst (v := 5) hx hb dL_law_318 (by decide) ?_
  refine lv_iadd hx hb dL_law_319 ?_
  refine lv_topv (y := 5) (by decide) ?_
  refine va_sld hx hb hX hbl hbA hS (by unfold vp_in; decide) dL_law_320 ?_
  refine lv_topv (y := xs 5) (congrArg xs (by decide)) ?_
  refine eWi (wr := []) (va_runV (As := [.int (xs 1), .int (xs 2), .int (xs 3), .int (xs 4), .int (xs 5)]) (rest := [.int 20]) ⟨hx, hb, hml, hown, hts⟩ (c_X12_feed l D cI cB cZ cJ [(cT, .object "NailStain$Text")] h q i0 (xs 1) (xs 2) (xs 3) (xs 4) (xs 5) rfl H.size) (zV hts k_1610 v_X12_feed ⟨Nat.le_of_ble_eq_true rfl, Nat.le_of_ble_eq_true rfl⟩) (pV (pxS hK hP hD [0, 1] (by decide) rfl) hK hP 0 rfl rfl) rfl rfl hl.1 rfl (lv_room (Nat.le_of_ble_eq_true rfl)) dL_law_321 ⟨Nat.le_of_ble_eq_true rfl, Nat.le_of_ble_eq_true rfl⟩) hP hD hS hA [0, 1] [] rfl rfl (by decide) (by decide) (fun r_3 u_4 H locs wr_3 hP hD hS => ?_)
  have hP : va_P D vwCl [] H := hP
  have hD : va_D A [] := hD
  subst wr_3
  refine lv_icmp_eq (tgt := 1939) hx hb dL_law_324 (by decide) (fun _ => ?_) (fun c => absurd rfl c)
  exact law_end hx hb hr hml hlocks hX hbl hbA hA hA2 hS hl

set_option maxHeartbeats 4000000 in
set_option maxRecDepth 100000 in
theorem law_c3 {p : Program} {l : Launch} {e : Env} {s : State} {m : MethodId} {below : List Frame} {meth : Method} {c : Code} {b : Nat} {xs : Nat → Int32} {H : Heap} {locs : List Loc} {ls : Array Slot} {A : Nat → Prop} (hx : p.tables.exec = Jvm.exec) (hb : c.code = cL_law) (hr : meth.sig.returnType = ret) (hml : c.maxLocals = 4) (hlocks : meth.locks = false) {D : va_G} {cI cB cZ cJ cT : ClassId} {h : Nat} {a q : Nat → Nat} {f g1 g2 : Nat → Int32} (hown : s.vm.findClass RL = some m.cls) (hts : ∀ w ∈ TBL, w.before #[Value.ref b] s = true) (hK : KX D cI cB cZ cJ [(cT, .object "NailStain$Text")] s) (hP : va_P D vwCl (xW cI cB cZ cJ cT a f ++ mW cI cB cZ cJ h q g1 g2 i0) H) (hD : va_D A (xW cI cB cZ cJ cT a f ++ mW cI cB cZ cJ h q g1 g2 i0)) (hX : va_X b 7 xs s s.heap) (hbl : b < s.heap.size) (hbA : ¬ A b) (hA : ∀ q, s.heap.size ≤ q → A q) (hA2 : ∀ q, A q → s.heap.size ≤ q) (hS : va_S A s.heap H locs) (hl : lv_has ls 4 [(3, .int 0), (2, .ref h), (1, .ref (a 0)), (0, .ref b)]) : W p l e room_1 s m #[Value.ref b] below meth c H locs 116 197732 (lw_Z below #[Value.ref b] s) (F0 m 329 ls []) := by
  have hP := hP.sub (ws' := [(a 0, .inr (11, [.ref (a 1), .ref (a 2), .ref (a 3), .ref (a 4), .ref (a 5), .ref (a 6), .ref (a 7), .ref (a 8), .ref (a 9), .ref (a 10), .ref (a 11), .ref (a 12), .int 100])), (a 1, .inr (8, [.ref (a 17), .int 0])), (h, .inr (12, mG q i0))]) [0, 1, 27] rfl
  have hD := hD.sub (ws' := [(a 0, .inr (11, [.ref (a 1), .ref (a 2), .ref (a 3), .ref (a 4), .ref (a 5), .ref (a 6), .ref (a 7), .ref (a 8), .ref (a 9), .ref (a 10), .ref (a 11), .ref (a 12), .int 100])), (a 1, .inr (8, [.ref (a 17), .int 0])), (h, .inr (12, mG q i0))]) [0, 1, 27] (by decide) rfl
  refine lv_aload_n hx hb dL_law_329 rfl (lv_at hl 2 rfl) ?_
  refine lv_aload_n hx hb dL_law_330 rfl (lv_at hl 3 rfl) ?_
  refine lv_iload_n hx hb dL_law_331 rfl (lv_at hl 0 rfl) ?_
  refine lv_iconst (v := 1) hx hb dL_law_332 (by decide) ?_
  refine lv_iadd hx hb dL_law_333 ?_
  refine lv_topv (y := 1) (by decide) ?_
  refine va_sld hx hb hX hbl hbA hS (by unfold vp_in; decide) dL_law_334 ?_
  refine lv_topv (y := xs 1) (congrArg xs (by decide)) ?_
  refine eWi (wr := [(h, .inr (12, mG q i0))]) (va_runV (As := [.int (xs 1)]) (rest := []) ⟨hx, hb, hml, hown, hts⟩ (c_X11_rule l D cI cB cZ cJ [(cT, .object "NailStain$Text")] a (xs 1) H.size) (zV hts k_547 v_X11_rule ⟨Nat.le_of_ble_eq_true rfl, Nat.le_of_ble_eq_true rfl⟩) (pV (pxS hK hP hD [0, 1] (by decide) rfl) hK hP 0 rfl rfl) rfl rfl hl.1 rfl (lv_room (Nat.le_of_ble_eq_true rfl)) dL_law_335 ⟨Nat.le_of_ble_eq_true rfl, Nat.le_of_ble_eq_true rfl⟩) hP hD hS hA [0, 1] [2] rfl rfl (by decide) (by decide) (fun r_1 u_2 H locs wr_1 hP hD hS => ?_)
  have hP : va_P D vwCl [(h, .inr (12, mG q i0))] H := hP
  have hD : va_D A [(h, .inr (12, mG q i0))] := hD
  subst wr_1
  refine lv_aload_n hx hb dL_law_338 rfl (lv_at hl 1 rfl) ?_
  refine lv_aload_n hx hb dL_law_339 rfl (lv_at hl 3 rfl) ?_
  refine lv_iload_n hx hb dL_law_340 rfl (lv_at hl 0 rfl) ?_
  refine lv_iconst (v := 1) hx hb dL_law_341 (by decide) ?_
  refine lv_iadd hx hb dL_law_342 ?_
  refine lv_topv (y := 1) (by decide) ?_
  refine va_sld hx hb hX hbl hbA hS (by unfold vp_in; decide) dL_law_343 ?_
  refine lv_topv (y := xs 1) (congrArg xs (by decide)) ?_
  refine eWi (wr := []) (va_runV (As := [.int (xs 1)]) (rest := [.int (-1)]) ⟨hx, hb, hml, hown, hts⟩ (c_X12_rule l D cI cB cZ cJ [(cT, .object "NailStain$Text")] h q i0 (xs 1) rfl H.size) (zV hts k_1618 v_X12_rule ⟨Nat.le_of_ble_eq_true rfl, Nat.le_of_ble_eq_true rfl⟩) (pV (pxS hK hP hD [0] (by decide) rfl) hK hP 0 rfl rfl) rfl rfl hl.1 rfl (lv_room (Nat.le_of_ble_eq_true rfl)) dL_law_344 ⟨Nat.le_of_ble_eq_true rfl, Nat.le_of_ble_eq_true rfl⟩) hP hD hS hA [0] [] rfl rfl (by decide) (by decide) (fun r_3 u_4 H locs wr_3 hP hD hS => ?_)
  have hP : va_P D vwCl [] H := hP
  have hD : va_D A [] := hD
  subst wr_3
  refine lv_icmp_eq (tgt := 1939) hx hb dL_law_347 (by decide) (fun _ => ?_) (fun c => absurd rfl c)
  exact law_end hx hb hr hml hlocks hX hbl hbA hA hA2 hS hl

set_option maxHeartbeats 4000000 in
set_option maxRecDepth 100000 in
theorem law_c4 {p : Program} {l : Launch} {e : Env} {s : State} {m : MethodId} {below : List Frame} {meth : Method} {c : Code} {b : Nat} {xs : Nat → Int32} {H : Heap} {locs : List Loc} {ls : Array Slot} {A : Nat → Prop} (hx : p.tables.exec = Jvm.exec) (hb : c.code = cL_law) (hr : meth.sig.returnType = ret) (hml : c.maxLocals = 4) (hlocks : meth.locks = false) {D : va_G} {cI cB cZ cJ cT : ClassId} {h : Nat} {a q : Nat → Nat} {f g1 g2 : Nat → Int32} (hown : s.vm.findClass RL = some m.cls) (hts : ∀ w ∈ TBL, w.before #[Value.ref b] s = true) (hK : KX D cI cB cZ cJ [(cT, .object "NailStain$Text")] s) (hP : va_P D vwCl (xW cI cB cZ cJ cT a f ++ mW cI cB cZ cJ h q g1 g2 i0) H) (hD : va_D A (xW cI cB cZ cJ cT a f ++ mW cI cB cZ cJ h q g1 g2 i0)) (hX : va_X b 7 xs s s.heap) (hbl : b < s.heap.size) (hbA : ¬ A b) (hA : ∀ q, s.heap.size ≤ q → A q) (hA2 : ∀ q, A q → s.heap.size ≤ q) (hS : va_S A s.heap H locs) (hl : lv_has ls 4 [(3, .int 0), (2, .ref h), (1, .ref (a 0)), (0, .ref b)]) : W p l e room_1 s m #[Value.ref b] below meth c H locs 116 197732 (lw_Z below #[Value.ref b] s) (F0 m 352 ls []) := by
  have hP := hP.sub (ws' := [(a 0, .inr (11, [.ref (a 1), .ref (a 2), .ref (a 3), .ref (a 4), .ref (a 5), .ref (a 6), .ref (a 7), .ref (a 8), .ref (a 9), .ref (a 10), .ref (a 11), .ref (a 12), .int 100])), (a 1, .inr (8, [.ref (a 17), .int 0])), (h, .inr (12, mG q i0))]) [0, 1, 27] rfl
  have hD := hD.sub (ws' := [(a 0, .inr (11, [.ref (a 1), .ref (a 2), .ref (a 3), .ref (a 4), .ref (a 5), .ref (a 6), .ref (a 7), .ref (a 8), .ref (a 9), .ref (a 10), .ref (a 11), .ref (a 12), .int 100])), (a 1, .inr (8, [.ref (a 17), .int 0])), (h, .inr (12, mG q i0))]) [0, 1, 27] (by decide) rfl
  refine lv_aload_n hx hb dL_law_352 rfl (lv_at hl 2 rfl) ?_
  refine lv_aload_n hx hb dL_law_353 rfl (lv_at hl 3 rfl) ?_
  refine lv_iload_n hx hb dL_law_354 rfl (lv_at hl 0 rfl) ?_
  refine lv_iconst (v := 1) hx hb dL_law_355 (by decide) ?_
  refine lv_iadd hx hb dL_law_356 ?_
  refine lv_topv (y := 1) (by decide) ?_
  refine va_sld hx hb hX hbl hbA hS (by unfold vp_in; decide) dL_law_357 ?_
  refine lv_topv (y := xs 1) (congrArg xs (by decide)) ?_
  refine eWi (wr := [(h, .inr (12, mG q i0))]) (va_runV (As := [.int (xs 1)]) (rest := []) ⟨hx, hb, hml, hown, hts⟩ (c_X11_sand l D cI cB cZ cJ [(cT, .object "NailStain$Text")] a (xs 1) H.size) (zV hts k_739 v_X11_sand ⟨Nat.le_of_ble_eq_true rfl, Nat.le_of_ble_eq_true rfl⟩) (pV (pxS hK hP hD [0, 1] (by decide) rfl) hK hP 0 rfl rfl) rfl rfl hl.1 rfl (lv_room (Nat.le_of_ble_eq_true rfl)) dL_law_358 ⟨Nat.le_of_ble_eq_true rfl, Nat.le_of_ble_eq_true rfl⟩) hP hD hS hA [0, 1] [2] rfl rfl (by decide) (by decide) (fun r_1 u_2 H locs wr_1 hP hD hS => ?_)
  have hP : va_P D vwCl [(h, .inr (12, mG q i0))] H := hP
  have hD : va_D A [(h, .inr (12, mG q i0))] := hD
  subst wr_1
  refine lv_aload_n hx hb dL_law_361 rfl (lv_at hl 1 rfl) ?_
  refine lv_aload_n hx hb dL_law_362 rfl (lv_at hl 3 rfl) ?_
  refine lv_iload_n hx hb dL_law_363 rfl (lv_at hl 0 rfl) ?_
  refine lv_iconst (v := 1) hx hb dL_law_364 (by decide) ?_
  refine lv_iadd hx hb dL_law_365 ?_
  refine lv_topv (y := 1) (by decide) ?_
  refine va_sld hx hb hX hbl hbA hS (by unfold vp_in; decide) dL_law_366 ?_
  refine lv_topv (y := xs 1) (congrArg xs (by decide)) ?_
  refine eWi (wr := []) (va_runV (As := [.int (xs 1)]) (rest := [.int (-1)]) ⟨hx, hb, hml, hown, hts⟩ (c_X12_sand l D cI cB cZ cJ [(cT, .object "NailStain$Text")] h q i0 (xs 1) rfl H.size) (zV hts k_1720 v_X12_sand ⟨Nat.le_of_ble_eq_true rfl, Nat.le_of_ble_eq_true rfl⟩) (pV (pxS hK hP hD [0] (by decide) rfl) hK hP 0 rfl rfl) rfl rfl hl.1 rfl (lv_room (Nat.le_of_ble_eq_true rfl)) dL_law_367 ⟨Nat.le_of_ble_eq_true rfl, Nat.le_of_ble_eq_true rfl⟩) hP hD hS hA [0] [] rfl rfl (by decide) (by decide) (fun r_3 u_4 H locs wr_3 hP hD hS => ?_)
  have hP : va_P D vwCl [] H := hP
  have hD : va_D A [] := hD
  subst wr_3
  refine lv_icmp_eq (tgt := 1939) hx hb dL_law_370 (by decide) (fun _ => ?_) (fun c => absurd rfl c)
  exact law_end hx hb hr hml hlocks hX hbl hbA hA hA2 hS hl

set_option maxHeartbeats 4000000 in
set_option maxRecDepth 100000 in
theorem law_c5 {p : Program} {l : Launch} {e : Env} {s : State} {m : MethodId} {below : List Frame} {meth : Method} {c : Code} {b : Nat} {xs : Nat → Int32} {H : Heap} {locs : List Loc} {ls : Array Slot} {A : Nat → Prop} (hx : p.tables.exec = Jvm.exec) (hb : c.code = cL_law) (hr : meth.sig.returnType = ret) (hml : c.maxLocals = 4) (hlocks : meth.locks = false) {D : va_G} {cI cB cZ cJ cT : ClassId} {h : Nat} {a q : Nat → Nat} {f g1 g2 : Nat → Int32} (hown : s.vm.findClass RL = some m.cls) (hts : ∀ w ∈ TBL, w.before #[Value.ref b] s = true) (hK : KX D cI cB cZ cJ [(cT, .object "NailStain$Text")] s) (hP : va_P D vwCl (xW cI cB cZ cJ cT a f ++ mW cI cB cZ cJ h q g1 g2 i0) H) (hD : va_D A (xW cI cB cZ cJ cT a f ++ mW cI cB cZ cJ h q g1 g2 i0)) (hX : va_X b 7 xs s s.heap) (hbl : b < s.heap.size) (hbA : ¬ A b) (hA : ∀ q, s.heap.size ≤ q → A q) (hA2 : ∀ q, A q → s.heap.size ≤ q) (hS : va_S A s.heap H locs) (hl : lv_has ls 4 [(3, .int 0), (2, .ref h), (1, .ref (a 0)), (0, .ref b)]) : W p l e room_1 s m #[Value.ref b] below meth c H locs 116 197732 (lw_Z below #[Value.ref b] s) (F0 m 375 ls []) := by
  have hP := hP.sub (ws' := [(a 0, .inr (11, [.ref (a 1), .ref (a 2), .ref (a 3), .ref (a 4), .ref (a 5), .ref (a 6), .ref (a 7), .ref (a 8), .ref (a 9), .ref (a 10), .ref (a 11), .ref (a 12), .int 100])), (a 1, .inr (8, [.ref (a 17), .int 0])), (h, .inr (12, mG q i0))]) [0, 1, 27] rfl
  have hD := hD.sub (ws' := [(a 0, .inr (11, [.ref (a 1), .ref (a 2), .ref (a 3), .ref (a 4), .ref (a 5), .ref (a 6), .ref (a 7), .ref (a 8), .ref (a 9), .ref (a 10), .ref (a 11), .ref (a 12), .int 100])), (a 1, .inr (8, [.ref (a 17), .int 0])), (h, .inr (12, mG q i0))]) [0, 1, 27] (by decide) rfl
  refine lv_aload_n hx hb dL_law_375 rfl (lv_at hl 2 rfl) ?_
  refine lv_aload_n hx hb dL_law_376 rfl (lv_at hl 3 rfl) ?_
  refine lv_iload_n hx hb dL_law_377 rfl (lv_at hl 0 rfl) ?_
  refine lv_iconst (v := 1) hx hb dL_law_378 (by decide) ?_
  refine lv_iadd hx hb dL_law_379 ?_
  refine lv_topv (y := 1) (by decide) ?_
  refine va_sld hx hb hX hbl hbA hS (by unfold vp_in; decide) dL_law_380 ?_
  refine lv_topv (y := xs 1) (congrArg xs (by decide)) ?_
  refine eWi (wr := [(h, .inr (12, mG q i0))]) (va_runV (As := [.int (xs 1)]) (rest := []) ⟨hx, hb, hml, hown, hts⟩ (c_X11_stain l D cI cB cZ cJ [(cT, .object "NailStain$Text")] a (xs 1) H.size) (zV hts k_744 v_X11_stain ⟨Nat.le_of_ble_eq_true rfl, Nat.le_of_ble_eq_true rfl⟩) (pV (pxS hK hP hD [0, 1] (by decide) rfl) hK hP 0 rfl rfl) rfl rfl hl.1 rfl (lv_room (Nat.le_of_ble_eq_true rfl)) dL_law_381 ⟨Nat.le_of_ble_eq_true rfl, Nat.le_of_ble_eq_true rfl⟩) hP hD hS hA [0, 1] [2] rfl rfl (by decide) (by decide) (fun r_1 u_2 H locs wr_1 hP hD hS => ?_)
  have hP : va_P D vwCl [(h, .inr (12, mG q i0))] H := hP
  have hD : va_D A [(h, .inr (12, mG q i0))] := hD
  subst wr_1
  refine lv_aload_n hx hb dL_law_384 rfl (lv_at hl 1 rfl) ?_
  refine lv_aload_n hx hb dL_law_385 rfl (lv_at hl 3 rfl) ?_
  refine lv_iload_n hx hb dL_law_386 rfl (lv_at hl 0 rfl) ?_
  refine lv_iconst (v := 1) hx hb dL_law_387 (by decide) ?_
  refine lv_iadd hx hb dL_law_388 ?_
  refine lv_topv (y := 1) (by decide) ?_
  refine va_sld hx hb hX hbl hbA hS (by unfold vp_in; decide) dL_law_389 ?_
  refine lv_topv (y := xs 1) (congrArg xs (by decide)) ?_
  refine eWi (wr := []) (va_runV (As := [.int (xs 1)]) (rest := [.int (-1)]) ⟨hx, hb, hml, hown, hts⟩ (c_X12_stain l D cI cB cZ cJ [(cT, .object "NailStain$Text")] h q i0 (xs 1) rfl H.size) (zV hts k_1724 v_X12_stain ⟨Nat.le_of_ble_eq_true rfl, Nat.le_of_ble_eq_true rfl⟩) (pV (pxS hK hP hD [0] (by decide) rfl) hK hP 0 rfl rfl) rfl rfl hl.1 rfl (lv_room (Nat.le_of_ble_eq_true rfl)) dL_law_390 ⟨Nat.le_of_ble_eq_true rfl, Nat.le_of_ble_eq_true rfl⟩) hP hD hS hA [0] [] rfl rfl (by decide) (by decide) (fun r_3 u_4 H locs wr_3 hP hD hS => ?_)
  have hP : va_P D vwCl [] H := hP
  have hD : va_D A [] := hD
  subst wr_3
  refine lv_icmp_eq (tgt := 1939) hx hb dL_law_393 (by decide) (fun _ => ?_) (fun c => absurd rfl c)
  exact law_end hx hb hr hml hlocks hX hbl hbA hA hA2 hS hl

set_option maxHeartbeats 4000000 in
set_option maxRecDepth 100000 in
theorem law_c6 {p : Program} {l : Launch} {e : Env} {s : State} {m : MethodId} {below : List Frame} {meth : Method} {c : Code} {b : Nat} {xs : Nat → Int32} {H : Heap} {locs : List Loc} {ls : Array Slot} {A : Nat → Prop} (hx : p.tables.exec = Jvm.exec) (hb : c.code = cL_law) (hr : meth.sig.returnType = ret) (hml : c.maxLocals = 4) (hlocks : meth.locks = false) {D : va_G} {cI cB cZ cJ cT : ClassId} {h : Nat} {a q : Nat → Nat} {f g1 g2 : Nat → Int32} (hown : s.vm.findClass RL = some m.cls) (hts : ∀ w ∈ TBL, w.before #[Value.ref b] s = true) (hK : KX D cI cB cZ cJ [(cT, .object "NailStain$Text")] s) (hP : va_P D vwCl (xW cI cB cZ cJ cT a f ++ mW cI cB cZ cJ h q g1 g2 i0) H) (hD : va_D A (xW cI cB cZ cJ cT a f ++ mW cI cB cZ cJ h q g1 g2 i0)) (hX : va_X b 7 xs s s.heap) (hbl : b < s.heap.size) (hbA : ¬ A b) (hA : ∀ q, s.heap.size ≤ q → A q) (hA2 : ∀ q, A q → s.heap.size ≤ q) (hS : va_S A s.heap H locs) (hl : lv_has ls 4 [(3, .int 0), (2, .ref h), (1, .ref (a 0)), (0, .ref b)]) : W p l e room_1 s m #[Value.ref b] below meth c H locs 116 197732 (lw_Z below #[Value.ref b] s) (F0 m 398 ls []) := by
  have hP := hP.sub (ws' := [(a 0, .inr (11, [.ref (a 1), .ref (a 2), .ref (a 3), .ref (a 4), .ref (a 5), .ref (a 6), .ref (a 7), .ref (a 8), .ref (a 9), .ref (a 10), .ref (a 11), .ref (a 12), .int 100])), (a 3, .inl (cT, 4, .inr (.inr (.inr (.inr (fun j => if j < 4 then some (a (13 + j)) else none)))))), (a 5, .inr (4, [.ref (a 18), .ref (a 19), .ref (a 20), .ref (a 21), .ref (a 22), .ref (a 23), .ref (a 24), .int 0, .int 0, .int 0, .int 1])), (a 6, .inr (0, [.ref (a 5), .ref (a 25), .ref (a 26), .ref (a 27), .ref (a 28), .ref (a 29), .int 0])), (a 10, .inr (10, [.ref (a 5), .ref (a 46)])), (a 13, .inr (9, [.ref (a 51), .ref (a 52), .ref (a 53), .ref (a 54), .ref (a 55), .int 0, .int 0, .int 0, .int 0])), (a 18, .inl (cI, 384, .inl (fun _ => 0))), (a 19, .inl (cI, 384, .inl (fun _ => 0))), (a 20, .inl (cI, 384, .inl (fun _ => 0))), (a 21, .inl (cZ, 384, .inl (fun _ => 0))), (a 23, .inl (cI, 8, .inl (fun _ => 0))), (a 24, .inl (cI, 26, .inl (fun _ => 0))), (a 46, .inl (cI, 48, .inl (fun _ => 0))), (h, .inr (12, mG q i0)), (q 6, .inl (cI, 3, .inl (fun _ => 0))), (q 66, .inl (cZ, 8, .inl (fun _ => 0))), (q 73, .inl (cI, 48, .inl g2)), (q 44, .inl (cI, 384, .inl (fun _ => 0))), (q 45, .inl (cI, 384, .inl (fun _ => 0))), (q 46, .inl (cZ, 384, .inl (fun _ => 0))), (q 47, .inl (cI, 384, .inl (fun _ => 0)))]) [0, 2, 4, 5, 8, 11, 15, 16, 17, 18, 20, 21, 22, 27, 29, 32, 36, 37, 38, 39, 40] rfl
  have hD := hD.sub (ws' := [(a 0, .inr (11, [.ref (a 1), .ref (a 2), .ref (a 3), .ref (a 4), .ref (a 5), .ref (a 6), .ref (a 7), .ref (a 8), .ref (a 9), .ref (a 10), .ref (a 11), .ref (a 12), .int 100])), (a 3, .inl (cT, 4, .inr (.inr (.inr (.inr (fun j => if j < 4 then some (a (13 + j)) else none)))))), (a 5, .inr (4, [.ref (a 18), .ref (a 19), .ref (a 20), .ref (a 21), .ref (a 22), .ref (a 23), .ref (a 24), .int 0, .int 0, .int 0, .int 1])), (a 6, .inr (0, [.ref (a 5), .ref (a 25), .ref (a 26), .ref (a 27), .ref (a 28), .ref (a 29), .int 0])), (a 10, .inr (10, [.ref (a 5), .ref (a 46)])), (a 13, .inr (9, [.ref (a 51), .ref (a 52), .ref (a 53), .ref (a 54), .ref (a 55), .int 0, .int 0, .int 0, .int 0])), (a 18, .inl (cI, 384, .inl (fun _ => 0))), (a 19, .inl (cI, 384, .inl (fun _ => 0))), (a 20, .inl (cI, 384, .inl (fun _ => 0))), (a 21, .inl (cZ, 384, .inl (fun _ => 0))), (a 23, .inl (cI, 8, .inl (fun _ => 0))), (a 24, .inl (cI, 26, .inl (fun _ => 0))), (a 46, .inl (cI, 48, .inl (fun _ => 0))), (h, .inr (12, mG q i0)), (q 6, .inl (cI, 3, .inl (fun _ => 0))), (q 66, .inl (cZ, 8, .inl (fun _ => 0))), (q 73, .inl (cI, 48, .inl g2)), (q 44, .inl (cI, 384, .inl (fun _ => 0))), (q 45, .inl (cI, 384, .inl (fun _ => 0))), (q 46, .inl (cZ, 384, .inl (fun _ => 0))), (q 47, .inl (cI, 384, .inl (fun _ => 0)))]) [0, 2, 4, 5, 8, 11, 15, 16, 17, 18, 20, 21, 22, 27, 29, 32, 36, 37, 38, 39, 40] (by decide) rfl
  refine lv_aload_n hx hb dL_law_398 rfl (lv_at hl 2 rfl) ?_
  refine lv_aload_n hx hb dL_law_399 rfl (lv_at hl 3 rfl) ?_
  refine lv_iload_n hx hb dL_law_400 rfl (lv_at hl 0 rfl) ?_
  refine lv_iconst (v := 1) hx hb dL_law_401 (by decide) ?_
  refine lv_iadd hx hb dL_law_402 ?_
  refine lv_topv (y := 1) (by decide) ?_
  refine va_sld hx hb hX hbl hbA hS (by unfold vp_in; decide) dL_law_403 ?_
  refine lv_topv (y := xs 1) (congrArg xs (by decide)) ?_
  refine lv_aload_n hx hb dL_law_404 rfl (lv_at hl 3 rfl) ?_
  refine lv_iload_n hx hb dL_law_405 rfl (lv_at hl 0 rfl) ?_
  refine lv_iconst (v := 2) hx hb dL_law_406 (by decide) ?_
  refine lv_iadd hx hb dL_law_407 ?_
  refine lv_topv (y := 2) (by decide) ?_
  refine va_sld hx hb hX hbl hbA hS (by unfold vp_in; decide) dL_law_408 ?_
  refine lv_topv (y := xs 2) (congrArg xs (by decide)) ?_
  refine eWi (wr := [(h, .inr (12, mG q i0)), (q 6, .inl (cI, 3, .inl (fun _ => 0))), (q 66, .inl (cZ, 8, .inl (fun _ => 0))), (q 73, .inl (cI, 48, .inl g2)), (q 44, .inl (cI, 384, .inl (fun _ => 0))), (q 45, .inl (cI, 384, .inl (fun _ => 0))), (q 46, .inl (cZ, 384, .inl (fun _ => 0))), (q 47, .inl (cI, 384, .inl (fun _ => 0)))]) (va_runV (As := [.int (xs 1), .int (xs 2)]) (rest := []) ⟨hx, hb, hml, hown, hts⟩ (c_X11_build l D cI cB cZ cJ cT a (xs 1) (xs 2) H.size) (zV hts k_749 v_X11_build ⟨Nat.le_of_ble_eq_true rfl, Nat.le_of_ble_eq_true rfl⟩) (pV (pxS hK hP hD [0, 1, 3, 4, 12, 2, 6, 7, 8, 9, 10, 11, 5] (by decide) rfl) hK hP 0 rfl rfl) rfl rfl hl.1 rfl (lv_room (Nat.le_of_ble_eq_true rfl)) dL_law_409 ⟨Nat.le_of_ble_eq_true rfl, Nat.le_of_ble_eq_true rfl⟩) hP hD hS hA [0, 1, 3, 4, 12, 2, 6, 7, 8, 9, 10, 11, 5] [13, 14, 15, 16, 17, 18, 19, 20] rfl rfl (by decide) (by decide) (fun r_1 u_2 H locs wr_1 hP hD hS => ?_)
  have hP : va_P D vwCl [(h, .inr (12, mG q i0)), (q 6, .inl (cI, 3, .inl (fun _ => 0))), (q 66, .inl (cZ, 8, .inl (fun _ => 0))), (q 73, .inl (cI, 48, .inl g2)), (q 44, .inl (cI, 384, .inl (fun _ => 0))), (q 45, .inl (cI, 384, .inl (fun _ => 0))), (q 46, .inl (cZ, 384, .inl (fun _ => 0))), (q 47, .inl (cI, 384, .inl (fun _ => 0)))] H := hP
  have hD : va_D A [(h, .inr (12, mG q i0)), (q 6, .inl (cI, 3, .inl (fun _ => 0))), (q 66, .inl (cZ, 8, .inl (fun _ => 0))), (q 73, .inl (cI, 48, .inl g2)), (q 44, .inl (cI, 384, .inl (fun _ => 0))), (q 45, .inl (cI, 384, .inl (fun _ => 0))), (q 46, .inl (cZ, 384, .inl (fun _ => 0))), (q 47, .inl (cI, 384, .inl (fun _ => 0)))] := hD
  subst wr_1
  refine lv_aload_n hx hb dL_law_412 rfl (lv_at hl 1 rfl) ?_
  refine lv_aload_n hx hb dL_law_413 rfl (lv_at hl 3 rfl) ?_
  refine lv_iload_n hx hb dL_law_414 rfl (lv_at hl 0 rfl) ?_
  refine lv_iconst (v := 1) hx hb dL_law_415 (by decide) ?_
  refine lv_iadd hx hb dL_law_416 ?_
  refine lv_topv (y := 1) (by decide) ?_
  refine va_sld hx hb hX hbl hbA hS (by unfold vp_in; decide) dL_law_417 ?_
  refine lv_topv (y := xs 1) (congrArg xs (by decide)) ?_
  refine lv_aload_n hx hb dL_law_418 rfl (lv_at hl 3 rfl) ?_
  refine lv_iload_n hx hb dL_law_419 rfl (lv_at hl 0 rfl) ?_
  refine lv_iconst (v := 2) hx hb dL_law_420 (by decide) ?_
  refine lv_iadd hx hb dL_law_421 ?_
  refine lv_topv (y := 2) (by decide) ?_
  refine va_sld hx hb hX hbl hbA hS (by unfold vp_in; decide) dL_law_422 ?_
  refine lv_topv (y := xs 2) (congrArg xs (by decide)) ?_
  refine eWi (wr := []) (va_runV (As := [.int (xs 1), .int (xs 2)]) (rest := [.int (sp_build (xs 1) (xs 2))]) ⟨hx, hb, hml, hown, hts⟩ (c_X12_build l D cI cB cZ cJ [(cT, .object "NailStain$Text")] h q i0 g2 (xs 1) (xs 2) H.size) (zV hts k_1728 v_X12_build ⟨Nat.le_of_ble_eq_true rfl, Nat.le_of_ble_eq_true rfl⟩) (pV (pxS hK hP hD [0, 3, 1, 4, 5, 6, 7, 2] (by decide) rfl) hK hP 0 rfl rfl) rfl rfl hl.1 rfl (lv_room (Nat.le_of_ble_eq_true rfl)) dL_law_423 ⟨Nat.le_of_ble_eq_true rfl, Nat.le_of_ble_eq_true rfl⟩) hP hD hS hA [0, 3, 1, 4, 5, 6, 7, 2] [] rfl rfl (by decide) (by decide) (fun r_3 u_4 H locs wr_3 hP hD hS => ?_)
  have hP : va_P D vwCl [] H := hP
  have hD : va_D A [] := hD
  subst wr_3
  refine lv_icmp_eq (tgt := 1939) hx hb dL_law_426 (by decide) (fun _ => ?_) (fun c => absurd rfl c)
  exact law_end hx hb hr hml hlocks hX hbl hbA hA hA2 hS hl

set_option maxHeartbeats 4000000 in
set_option maxRecDepth 100000 in
theorem law_c7 {p : Program} {l : Launch} {e : Env} {s : State} {m : MethodId} {below : List Frame} {meth : Method} {c : Code} {b : Nat} {xs : Nat → Int32} {H : Heap} {locs : List Loc} {ls : Array Slot} {A : Nat → Prop} (hx : p.tables.exec = Jvm.exec) (hb : c.code = cL_law) (hr : meth.sig.returnType = ret) (hml : c.maxLocals = 4) (hlocks : meth.locks = false) {D : va_G} {cI cB cZ cJ cT : ClassId} {h : Nat} {a q : Nat → Nat} {f g1 g2 : Nat → Int32} (hown : s.vm.findClass RL = some m.cls) (hts : ∀ w ∈ TBL, w.before #[Value.ref b] s = true) (hK : KX D cI cB cZ cJ [(cT, .object "NailStain$Text")] s) (hP : va_P D vwCl (xW cI cB cZ cJ cT a f ++ mW cI cB cZ cJ h q g1 g2 i0) H) (hD : va_D A (xW cI cB cZ cJ cT a f ++ mW cI cB cZ cJ h q g1 g2 i0)) (hX : va_X b 7 xs s s.heap) (hbl : b < s.heap.size) (hbA : ¬ A b) (hA : ∀ q, s.heap.size ≤ q → A q) (hA2 : ∀ q, A q → s.heap.size ≤ q) (hS : va_S A s.heap H locs) (hl : lv_has ls 4 [(3, .int 0), (2, .ref h), (1, .ref (a 0)), (0, .ref b)]) : W p l e room_1 s m #[Value.ref b] below meth c H locs 116 197732 (lw_Z below #[Value.ref b] s) (F0 m 431 ls []) := by
  have hP := hP.sub (ws' := [(a 0, .inr (11, [.ref (a 1), .ref (a 2), .ref (a 3), .ref (a 4), .ref (a 5), .ref (a 6), .ref (a 7), .ref (a 8), .ref (a 9), .ref (a 10), .ref (a 11), .ref (a 12), .int 100])), (a 5, .inr (4, [.ref (a 18), .ref (a 19), .ref (a 20), .ref (a 21), .ref (a 22), .ref (a 23), .ref (a 24), .int 0, .int 0, .int 0, .int 1])), (a 22, .inl (cI, 24, .inl (fun _ => 0))), (h, .inr (12, mG q i0)), (q 48, .inl (cI, 24, .inl (fun _ => 0)))]) [0, 4, 19, 27, 31] rfl
  have hD := hD.sub (ws' := [(a 0, .inr (11, [.ref (a 1), .ref (a 2), .ref (a 3), .ref (a 4), .ref (a 5), .ref (a 6), .ref (a 7), .ref (a 8), .ref (a 9), .ref (a 10), .ref (a 11), .ref (a 12), .int 100])), (a 5, .inr (4, [.ref (a 18), .ref (a 19), .ref (a 20), .ref (a 21), .ref (a 22), .ref (a 23), .ref (a 24), .int 0, .int 0, .int 0, .int 1])), (a 22, .inl (cI, 24, .inl (fun _ => 0))), (h, .inr (12, mG q i0)), (q 48, .inl (cI, 24, .inl (fun _ => 0)))]) [0, 4, 19, 27, 31] (by decide) rfl
  refine lv_aload_n hx hb dL_law_431 rfl (lv_at hl 2 rfl) ?_
  refine lv_aload_n hx hb dL_law_432 rfl (lv_at hl 3 rfl) ?_
  refine lv_iload_n hx hb dL_law_433 rfl (lv_at hl 0 rfl) ?_
  refine lv_iconst (v := 1) hx hb dL_law_434 (by decide) ?_
  refine lv_iadd hx hb dL_law_435 ?_
  refine lv_topv (y := 1) (by decide) ?_
  refine va_sld hx hb hX hbl hbA hS (by unfold vp_in; decide) dL_law_436 ?_
  refine lv_topv (y := xs 1) (congrArg xs (by decide)) ?_
  refine lv_aload_n hx hb dL_law_437 rfl (lv_at hl 3 rfl) ?_
  refine lv_iload_n hx hb dL_law_438 rfl (lv_at hl 0 rfl) ?_
  refine lv_iconst (v := 2) hx hb dL_law_439 (by decide) ?_
  refine lv_iadd hx hb dL_law_440 ?_
  refine lv_topv (y := 2) (by decide) ?_
  refine va_sld hx hb hX hbl hbA hS (by unfold vp_in; decide) dL_law_441 ?_
  refine lv_topv (y := xs 2) (congrArg xs (by decide)) ?_
  refine eWi (wr := [(h, .inr (12, mG q i0)), (q 48, .inl (cI, 24, .inl (fun _ => 0)))]) (va_runV (As := [.int (xs 1), .int (xs 2)]) (rest := []) ⟨hx, hb, hml, hown, hts⟩ (c_X11_mound l D cI cB cZ cJ [(cT, .object "NailStain$Text")] a (xs 1) (xs 2) H.size) (zV hts k_816 v_X11_mound ⟨Nat.le_of_ble_eq_true rfl, Nat.le_of_ble_eq_true rfl⟩) (pV (pxS hK hP hD [0, 1, 2] (by decide) rfl) hK hP 0 rfl rfl) rfl rfl hl.1 rfl (lv_room (Nat.le_of_ble_eq_true rfl)) dL_law_442 ⟨Nat.le_of_ble_eq_true rfl, Nat.le_of_ble_eq_true rfl⟩) hP hD hS hA [0, 1, 2] [3, 4] rfl rfl (by decide) (by decide) (fun r_1 u_2 H locs wr_1 hP hD hS => ?_)
  have hP : va_P D vwCl [(h, .inr (12, mG q i0)), (q 48, .inl (cI, 24, .inl (fun _ => 0)))] H := hP
  have hD : va_D A [(h, .inr (12, mG q i0)), (q 48, .inl (cI, 24, .inl (fun _ => 0)))] := hD
  subst wr_1
  refine lv_aload_n hx hb dL_law_445 rfl (lv_at hl 1 rfl) ?_
  refine lv_aload_n hx hb dL_law_446 rfl (lv_at hl 3 rfl) ?_
  refine lv_iload_n hx hb dL_law_447 rfl (lv_at hl 0 rfl) ?_
  refine lv_iconst (v := 1) hx hb dL_law_448 (by decide) ?_
  refine lv_iadd hx hb dL_law_449 ?_
  refine lv_topv (y := 1) (by decide) ?_
  refine va_sld hx hb hX hbl hbA hS (by unfold vp_in; decide) dL_law_450 ?_
  refine lv_topv (y := xs 1) (congrArg xs (by decide)) ?_
  refine lv_aload_n hx hb dL_law_451 rfl (lv_at hl 3 rfl) ?_
  refine lv_iload_n hx hb dL_law_452 rfl (lv_at hl 0 rfl) ?_
  refine lv_iconst (v := 2) hx hb dL_law_453 (by decide) ?_
  refine lv_iadd hx hb dL_law_454 ?_
  refine lv_topv (y := 2) (by decide) ?_
  refine va_sld hx hb hX hbl hbA hS (by unfold vp_in; decide) dL_law_455 ?_
  refine lv_topv (y := xs 2) (congrArg xs (by decide)) ?_
  refine eWi (wr := []) (va_runV (As := [.int (xs 1), .int (xs 2)]) (rest := [.int (bi ((0 ≤ (xs 1) ∧ (xs 1) ≤ 23) ∧ 0 ≤ (xs 2) ∧ (xs 2) ≤ 1000))]) ⟨hx, hb, hml, hown, hts⟩ (c_X12_mound l D cI cB cZ cJ [(cT, .object "NailStain$Text")] h q i0 (xs 1) (xs 2) H.size) (zV hts k_1769 v_X12_mound ⟨Nat.le_of_ble_eq_true rfl, Nat.le_of_ble_eq_true rfl⟩) (pV (pxS hK hP hD [0, 1] (by decide) rfl) hK hP 0 rfl rfl) rfl rfl hl.1 rfl (lv_room (Nat.le_of_ble_eq_true rfl)) dL_law_456 ⟨Nat.le_of_ble_eq_true rfl, Nat.le_of_ble_eq_true rfl⟩) hP hD hS hA [0, 1] [] rfl rfl (by decide) (by decide) (fun r_3 u_4 H locs wr_3 hP hD hS => ?_)
  have hP : va_P D vwCl [] H := hP
  have hD : va_D A [] := hD
  subst wr_3
  refine lv_icmp_eq (tgt := 1939) hx hb dL_law_459 (by decide) (fun _ => ?_) (fun c => absurd rfl c)
  exact law_end hx hb hr hml hlocks hX hbl hbA hA hA2 hS hl

set_option maxHeartbeats 4000000 in
set_option maxRecDepth 100000 in
theorem law_c8 {p : Program} {l : Launch} {e : Env} {s : State} {m : MethodId} {below : List Frame} {meth : Method} {c : Code} {b : Nat} {xs : Nat → Int32} {H : Heap} {locs : List Loc} {ls : Array Slot} {A : Nat → Prop} (hx : p.tables.exec = Jvm.exec) (hb : c.code = cL_law) (hr : meth.sig.returnType = ret) (hml : c.maxLocals = 4) (hlocks : meth.locks = false) {D : va_G} {cI cB cZ cJ cT : ClassId} {h : Nat} {a q : Nat → Nat} {f g1 g2 : Nat → Int32} (hown : s.vm.findClass RL = some m.cls) (hts : ∀ w ∈ TBL, w.before #[Value.ref b] s = true) (hK : KX D cI cB cZ cJ [(cT, .object "NailStain$Text")] s) (hP : va_P D vwCl (xW cI cB cZ cJ cT a f ++ mW cI cB cZ cJ h q g1 g2 i0) H) (hD : va_D A (xW cI cB cZ cJ cT a f ++ mW cI cB cZ cJ h q g1 g2 i0)) (hX : va_X b 7 xs s s.heap) (hbl : b < s.heap.size) (hbA : ¬ A b) (hA : ∀ q, s.heap.size ≤ q → A q) (hA2 : ∀ q, A q → s.heap.size ≤ q) (hS : va_S A s.heap H locs) (hl : lv_has ls 4 [(3, .int 0), (2, .ref h), (1, .ref (a 0)), (0, .ref b)]) : W p l e room_1 s m #[Value.ref b] below meth c H locs 116 197732 (lw_Z below #[Value.ref b] s) (F0 m 464 ls []) := by
  have hP := hP.sub (ws' := [(a 0, .inr (11, [.ref (a 1), .ref (a 2), .ref (a 3), .ref (a 4), .ref (a 5), .ref (a 6), .ref (a 7), .ref (a 8), .ref (a 9), .ref (a 10), .ref (a 11), .ref (a 12), .int 100])), (a 5, .inr (4, [.ref (a 18), .ref (a 19), .ref (a 20), .ref (a 21), .ref (a 22), .ref (a 23), .ref (a 24), .int 0, .int 0, .int 0, .int 1])), (h, .inr (12, mG q i0))]) [0, 4, 27] rfl
  have hD := hD.sub (ws' := [(a 0, .inr (11, [.ref (a 1), .ref (a 2), .ref (a 3), .ref (a 4), .ref (a 5), .ref (a 6), .ref (a 7), .ref (a 8), .ref (a 9), .ref (a 10), .ref (a 11), .ref (a 12), .int 100])), (a 5, .inr (4, [.ref (a 18), .ref (a 19), .ref (a 20), .ref (a 21), .ref (a 22), .ref (a 23), .ref (a 24), .int 0, .int 0, .int 0, .int 1])), (h, .inr (12, mG q i0))]) [0, 4, 27] (by decide) rfl
  refine lv_aload_n hx hb dL_law_464 rfl (lv_at hl 2 rfl) ?_
  refine lv_aload_n hx hb dL_law_465 rfl (lv_at hl 3 rfl) ?_
  refine lv_iload_n hx hb dL_law_466 rfl (lv_at hl 0 rfl) ?_
  refine lv_iconst (v := 1) hx hb dL_law_467 (by decide) ?_
  refine lv_iadd hx hb dL_law_468 ?_
  refine lv_topv (y := 1) (by decide) ?_
  refine va_sld hx hb hX hbl hbA hS (by unfold vp_in; decide) dL_law_469 ?_
  refine lv_topv (y := xs 1) (congrArg xs (by decide)) ?_
  refine eWi (wr := [(h, .inr (12, mG q i0))]) (va_runV (As := [.int (xs 1)]) (rest := []) ⟨hx, hb, hml, hown, hts⟩ (c_X11_bury l D cI cB cZ cJ [(cT, .object "NailStain$Text")] a (xs 1) H.size) (zV hts k_820 v_X11_bury ⟨Nat.le_of_ble_eq_true rfl, Nat.le_of_ble_eq_true rfl⟩) (pV (pxS hK hP hD [0, 1] (by decide) rfl) hK hP 0 rfl rfl) rfl rfl hl.1 rfl (lv_room (Nat.le_of_ble_eq_true rfl)) dL_law_470 ⟨Nat.le_of_ble_eq_true rfl, Nat.le_of_ble_eq_true rfl⟩) hP hD hS hA [0, 1] [2] rfl rfl (by decide) (by decide) (fun r_1 u_2 H locs wr_1 hP hD hS => ?_)
  have hP : va_P D vwCl [(h, .inr (12, mG q i0))] H := hP
  have hD : va_D A [(h, .inr (12, mG q i0))] := hD
  subst wr_1
  refine lv_aload_n hx hb dL_law_473 rfl (lv_at hl 1 rfl) ?_
  refine lv_aload_n hx hb dL_law_474 rfl (lv_at hl 3 rfl) ?_
  refine lv_iload_n hx hb dL_law_475 rfl (lv_at hl 0 rfl) ?_
  refine lv_iconst (v := 1) hx hb dL_law_476 (by decide) ?_
  refine lv_iadd hx hb dL_law_477 ?_
  refine lv_topv (y := 1) (by decide) ?_
  refine va_sld hx hb hX hbl hbA hS (by unfold vp_in; decide) dL_law_478 ?_
  refine lv_topv (y := xs 1) (congrArg xs (by decide)) ?_
  refine eWi (wr := []) (va_runV (As := [.int (xs 1)]) (rest := [.int (-1)]) ⟨hx, hb, hml, hown, hts⟩ (c_X12_bury l D cI cB cZ cJ [(cT, .object "NailStain$Text")] h q i0 (xs 1) rfl H.size) (zV hts k_1774 v_X12_bury ⟨Nat.le_of_ble_eq_true rfl, Nat.le_of_ble_eq_true rfl⟩) (pV (pxS hK hP hD [0] (by decide) rfl) hK hP 0 rfl rfl) rfl rfl hl.1 rfl (lv_room (Nat.le_of_ble_eq_true rfl)) dL_law_479 ⟨Nat.le_of_ble_eq_true rfl, Nat.le_of_ble_eq_true rfl⟩) hP hD hS hA [0] [] rfl rfl (by decide) (by decide) (fun r_3 u_4 H locs wr_3 hP hD hS => ?_)
  have hP : va_P D vwCl [] H := hP
  have hD : va_D A [] := hD
  subst wr_3
  refine lv_icmp_eq (tgt := 1939) hx hb dL_law_482 (by decide) (fun _ => ?_) (fun c => absurd rfl c)
  exact law_end hx hb hr hml hlocks hX hbl hbA hA hA2 hS hl

set_option maxHeartbeats 4000000 in
set_option maxRecDepth 100000 in
theorem law_c9 {p : Program} {l : Launch} {e : Env} {s : State} {m : MethodId} {below : List Frame} {meth : Method} {c : Code} {b : Nat} {xs : Nat → Int32} {H : Heap} {locs : List Loc} {ls : Array Slot} {A : Nat → Prop} (hx : p.tables.exec = Jvm.exec) (hb : c.code = cL_law) (hr : meth.sig.returnType = ret) (hml : c.maxLocals = 4) (hlocks : meth.locks = false) {D : va_G} {cI cB cZ cJ cT : ClassId} {h : Nat} {a q : Nat → Nat} {f g1 g2 : Nat → Int32} (hown : s.vm.findClass RL = some m.cls) (hts : ∀ w ∈ TBL, w.before #[Value.ref b] s = true) (hK : KX D cI cB cZ cJ [(cT, .object "NailStain$Text")] s) (hP : va_P D vwCl (xW cI cB cZ cJ cT a f ++ mW cI cB cZ cJ h q g1 g2 i0) H) (hD : va_D A (xW cI cB cZ cJ cT a f ++ mW cI cB cZ cJ h q g1 g2 i0)) (hX : va_X b 7 xs s s.heap) (hbl : b < s.heap.size) (hbA : ¬ A b) (hA : ∀ q, s.heap.size ≤ q → A q) (hA2 : ∀ q, A q → s.heap.size ≤ q) (hS : va_S A s.heap H locs) (hl : lv_has ls 4 [(3, .int 0), (2, .ref h), (1, .ref (a 0)), (0, .ref b)]) : W p l e room_1 s m #[Value.ref b] below meth c H locs 116 197732 (lw_Z below #[Value.ref b] s) (F0 m 487 ls []) := by
  have hP := hP.sub (ws' := [(a 0, .inr (11, [.ref (a 1), .ref (a 2), .ref (a 3), .ref (a 4), .ref (a 5), .ref (a 6), .ref (a 7), .ref (a 8), .ref (a 9), .ref (a 10), .ref (a 11), .ref (a 12), .int 100])), (a 5, .inr (4, [.ref (a 18), .ref (a 19), .ref (a 20), .ref (a 21), .ref (a 22), .ref (a 23), .ref (a 24), .int 0, .int 0, .int 0, .int 1])), (h, .inr (12, mG q i0))]) [0, 4, 27] rfl
  have hD := hD.sub (ws' := [(a 0, .inr (11, [.ref (a 1), .ref (a 2), .ref (a 3), .ref (a 4), .ref (a 5), .ref (a 6), .ref (a 7), .ref (a 8), .ref (a 9), .ref (a 10), .ref (a 11), .ref (a 12), .int 100])), (a 5, .inr (4, [.ref (a 18), .ref (a 19), .ref (a 20), .ref (a 21), .ref (a 22), .ref (a 23), .ref (a 24), .int 0, .int 0, .int 0, .int 1])), (h, .inr (12, mG q i0))]) [0, 4, 27] (by decide) rfl
  refine lv_aload_n hx hb dL_law_487 rfl (lv_at hl 2 rfl) ?_
  refine lv_aload_n hx hb dL_law_488 rfl (lv_at hl 3 rfl) ?_
  refine lv_iload_n hx hb dL_law_489 rfl (lv_at hl 0 rfl) ?_
  refine lv_iconst (v := 1) hx hb dL_law_490 (by decide) ?_
  refine lv_iadd hx hb dL_law_491 ?_
  refine lv_topv (y := 1) (by decide) ?_
  refine va_sld hx hb hX hbl hbA hS (by unfold vp_in; decide) dL_law_492 ?_
  refine lv_topv (y := xs 1) (congrArg xs (by decide)) ?_
  refine lv_aload_n hx hb dL_law_493 rfl (lv_at hl 3 rfl) ?_
  refine lv_iload_n hx hb dL_law_494 rfl (lv_at hl 0 rfl) ?_
  refine lv_iconst (v := 2) hx hb dL_law_495 (by decide) ?_
  refine lv_iadd hx hb dL_law_496 ?_
  refine lv_topv (y := 2) (by decide) ?_
  refine va_sld hx hb hX hbl hbA hS (by unfold vp_in; decide) dL_law_497 ?_
  refine lv_topv (y := xs 2) (congrArg xs (by decide)) ?_
  refine lv_aload_n hx hb dL_law_498 rfl (lv_at hl 3 rfl) ?_
  refine lv_iload_n hx hb dL_law_499 rfl (lv_at hl 0 rfl) ?_
  refine lv_iconst (v := 3) hx hb dL_law_500 (by decide) ?_
  refine lv_iadd hx hb dL_law_501 ?_
  refine lv_topv (y := 3) (by decide) ?_
  refine va_sld hx hb hX hbl hbA hS (by unfold vp_in; decide) dL_law_502 ?_
  refine lv_topv (y := xs 3) (congrArg xs (by decide)) ?_
  refine lv_aload_n hx hb dL_law_503 rfl (lv_at hl 3 rfl) ?_
  refine lv_iload_n hx hb dL_law_504 rfl (lv_at hl 0 rfl) ?_
  refine lv_iconst (v := 4) hx hb dL_law_505 (by decide) ?_
  refine lv_iadd hx hb dL_law_506 ?_
  refine lv_topv (y := 4) (by decide) ?_
  refine va_sld hx hb hX hbl hbA hS (by unfold vp_in; decide) dL_law_507 ?_
  refine lv_topv (y := xs 4) (congrArg xs (by decide)) ?_
  refine lv_aload_n hx hb dL_law_508 rfl (lv_at hl 3 rfl) ?_
  refine lv_iload_n hx hb dL_law_509 rfl (lv_at hl 0 rfl) ?_
  refine lv_iconst (v := 5) hx hb dL_law_510 (by decide) ?_
  refine lv_iadd hx hb dL_law_511 ?_
  refine lv_topv (y := 5) (by decide) ?_
  refine va_sld hx hb hX hbl hbA hS (by unfold vp_in; decide) dL_law_512 ?_
  refine lv_topv (y := xs 5) (congrArg xs (by decide)) ?_
  refine eWi (wr := [(h, .inr (12, mG q i0))]) (va_runV (As := [.int (xs 1), .int (xs 2), .int (xs 3), .int (xs 4), .int (xs 5)]) (rest := []) ⟨hx, hb, hml, hown, hts⟩ (c_X11_lies l D cI cB cZ cJ [(cT, .object "NailStain$Text")] a (xs 1) (xs 2) (xs 3) (xs 4) (xs 5) H.size) (zV hts k_846 v_X11_lies ⟨Nat.le_of_ble_eq_true rfl, Nat.le_of_ble_eq_true rfl⟩) (pV (pxS hK hP hD [0, 1] (by decide) rfl) hK hP 0 rfl rfl) rfl rfl hl.1 rfl (lv_room (Nat.le_of_ble_eq_true rfl)) dL_law_513 ⟨Nat.le_of_ble_eq_true rfl, Nat.le_of_ble_eq_true rfl⟩) hP hD hS hA [0, 1] [2] rfl rfl (by decide) (by decide) (fun r_1 u_2 H locs wr_1 hP hD hS => ?_)
  have hP : va_P D vwCl [(h, .inr (12, mG q i0))] H := hP
  have hD : va_D A [(h, .inr (12, mG q i0))] := hD
  subst wr_1
  refine lv_aload_n hx hb dL_law_516 rfl (lv_at hl 1 rfl) ?_
  refine lv_aload_n hx hb dL_law_517 rfl (lv_at hl 3 rfl) ?_
  refine lv_iload_n hx hb dL_law_518 rfl (lv_at hl 0 rfl) ?_
  refine lv_iconst (v := 1) hx hb dL_law_519 (by decide) ?_
  refine lv_iadd hx hb dL_law_520 ?_
  refine lv_topv (y := 1) (by decide) ?_
  refine va_sld hx hb hX hbl hbA hS (by unfold vp_in; decide) dL_law_521 ?_
  refine lv_topv (y := xs 1) (congrArg xs (by decide)) ?_
  refine lv_aload_n hx hb dL_law_522 rfl (lv_at hl 3 rfl) ?_
  refine lv_iload_n hx hb dL_law_523 rfl (lv_at hl 0 rfl) ?_
  refine lv_iconst (v := 2) hx hb dL_law_524 (by decide) ?_
  refine lv_iadd hx hb dL_law_525 ?_
  refine lv_topv (y := 2) (by decide) ?_
  refine va_sld hx hb hX hbl hbA hS (by unfold vp_in; decide) dL_law_526 ?_
  refine lv_topv (y := xs 2) (congrArg xs (by decide)) ?_
  refine lv_aload_n hx hb dL_law_527 rfl (lv_at hl 3 rfl) ?_
  refine lv_iload_n hx hb dL_law_528 rfl (lv_at hl 0 rfl) ?_
  refine lv_iconst (v := 3) hx hb dL_law_529 (by decide) ?_
  refine lv_iadd hx hb dL_law_530 ?_
  refine lv_topv (y := 3) (by decide) ?_
  refine va_sld hx hb hX hbl hbA hS (by unfold vp_in; decide) dL_law_531 ?_
  refine lv_topv (y := xs 3) (congrArg xs (by decide)) ?_
  refine lv_aload_n hx hb dL_law_532 rfl (lv_at hl 3 rfl) ?_
  refine lv_iload_n hx hb dL_law_533 rfl (lv_at hl 0 rfl) ?_
  refine lv_iconst (v := 4) hx hb dL_law_534 (by decide) ?_
  refine lv_iadd hx hb dL_law_535 ?_
  refine lv_topv (y := 4) (by decide) ?_
  refine va_sld hx hb hX hbl hbA hS (by unfold vp_in; decide) dL_law_536 ?_
  refine lv_topv (y := xs 4) (congrArg xs (by decide)) ?_
  refine lv_aload_n hx hb dL_law_537 rfl (lv_at hl 3 rfl) ?_
  refine lv_iload_n hx hb dL_law_538 rfl (lv_at hl 0 rfl) ?_
  refine lv_iconst (v := 5) hx hb dL_law_539 (by decide) ?_
  refine lv_iadd hx hb dL_law_540 ?_
  refine lv_topv (y := 5) (by decide) ?_
  refine va_sld hx hb hX hbl hbA hS (by unfold vp_in; decide) dL_law_541 ?_
  refine lv_topv (y := xs 5) (congrArg xs (by decide)) ?_
  refine eWi (wr := []) (va_runV (As := [.int (xs 1), .int (xs 2), .int (xs 3), .int (xs 4), .int (xs 5)]) (rest := [.int 0]) ⟨hx, hb, hml, hown, hts⟩ (c_X12_lies l D cI cB cZ cJ [(cT, .object "NailStain$Text")] h q i0 (xs 1) (xs 2) (xs 3) (xs 4) (xs 5) rfl H.size) (zV hts k_1795 v_X12_lies ⟨Nat.le_of_ble_eq_true rfl, Nat.le_of_ble_eq_true rfl⟩) (pV (pxS hK hP hD [0] (by decide) rfl) hK hP 0 rfl rfl) rfl rfl hl.1 rfl (lv_room (Nat.le_of_ble_eq_true rfl)) dL_law_542 ⟨Nat.le_of_ble_eq_true rfl, Nat.le_of_ble_eq_true rfl⟩) hP hD hS hA [0] [] rfl rfl (by decide) (by decide) (fun r_3 u_4 H locs wr_3 hP hD hS => ?_)
  have hP : va_P D vwCl [] H := hP
  have hD : va_D A [] := hD
  subst wr_3
  refine lv_icmp_eq (tgt := 1939) hx hb dL_law_545 (by decide) (fun _ => ?_) (fun c => absurd rfl c)
  exact law_end hx hb hr hml hlocks hX hbl hbA hA hA2 hS hl

set_option maxHeartbeats 4000000 in
set_option maxRecDepth 100000 in
theorem law_c10 {p : Program} {l : Launch} {e : Env} {s : State} {m : MethodId} {below : List Frame} {meth : Method} {c : Code} {b : Nat} {xs : Nat → Int32} {H : Heap} {locs : List Loc} {ls : Array Slot} {A : Nat → Prop} (hx : p.tables.exec = Jvm.exec) (hb : c.code = cL_law) (hr : meth.sig.returnType = ret) (hml : c.maxLocals = 4) (hlocks : meth.locks = false) {D : va_G} {cI cB cZ cJ cT : ClassId} {h : Nat} {a q : Nat → Nat} {f g1 g2 : Nat → Int32} (hown : s.vm.findClass RL = some m.cls) (hts : ∀ w ∈ TBL, w.before #[Value.ref b] s = true) (hK : KX D cI cB cZ cJ [(cT, .object "NailStain$Text")] s) (hP : va_P D vwCl (xW cI cB cZ cJ cT a f ++ mW cI cB cZ cJ h q g1 g2 i0) H) (hD : va_D A (xW cI cB cZ cJ cT a f ++ mW cI cB cZ cJ h q g1 g2 i0)) (hX : va_X b 7 xs s s.heap) (hbl : b < s.heap.size) (hbA : ¬ A b) (hA : ∀ q, s.heap.size ≤ q → A q) (hA2 : ∀ q, A q → s.heap.size ≤ q) (hS : va_S A s.heap H locs) (hl : lv_has ls 4 [(3, .int 0), (2, .ref h), (1, .ref (a 0)), (0, .ref b)]) : W p l e room_1 s m #[Value.ref b] below meth c H locs 116 197732 (lw_Z below #[Value.ref b] s) (F0 m 550 ls []) := by
  have hP := hP.sub (ws' := [(a 0, .inr (11, [.ref (a 1), .ref (a 2), .ref (a 3), .ref (a 4), .ref (a 5), .ref (a 6), .ref (a 7), .ref (a 8), .ref (a 9), .ref (a 10), .ref (a 11), .ref (a 12), .int 100])), (a 5, .inr (4, [.ref (a 18), .ref (a 19), .ref (a 20), .ref (a 21), .ref (a 22), .ref (a 23), .ref (a 24), .int 0, .int 0, .int 0, .int 1])), (h, .inr (12, mG q i0))]) [0, 4, 27] rfl
  have hD := hD.sub (ws' := [(a 0, .inr (11, [.ref (a 1), .ref (a 2), .ref (a 3), .ref (a 4), .ref (a 5), .ref (a 6), .ref (a 7), .ref (a 8), .ref (a 9), .ref (a 10), .ref (a 11), .ref (a 12), .int 100])), (a 5, .inr (4, [.ref (a 18), .ref (a 19), .ref (a 20), .ref (a 21), .ref (a 22), .ref (a 23), .ref (a 24), .int 0, .int 0, .int 0, .int 1])), (h, .inr (12, mG q i0))]) [0, 4, 27] (by decide) rfl
  refine lv_aload_n hx hb dL_law_550 rfl (lv_at hl 2 rfl) ?_
  refine lv_aload_n hx hb dL_law_551 rfl (lv_at hl 3 rfl) ?_
  refine lv_iload_n hx hb dL_law_552 rfl (lv_at hl 0 rfl) ?_
  refine lv_iconst (v := 1) hx hb dL_law_553 (by decide) ?_
  refine lv_iadd hx hb dL_law_554 ?_
  refine lv_topv (y := 1) (by decide) ?_
  refine va_sld hx hb hX hbl hbA hS (by unfold vp_in; decide) dL_law_555 ?_
  refine lv_topv (y := xs 1) (congrArg xs (by decide)) ?_
  refine lv_aload_n hx hb dL_law_556 rfl (lv_at hl 3 rfl) ?_
  refine lv_iload_n hx hb dL_law_557 rfl (lv_at hl 0 rfl) ?_
  refine lv_iconst (v := 2) hx hb dL_law_558 (by decide) ?_
  refine lv_iadd hx hb dL_law_559 ?_
  refine lv_topv (y := 2) (by decide) ?_
  refine va_sld hx hb hX hbl hbA hS (by unfold vp_in; decide) dL_law_560 ?_
  refine lv_topv (y := xs 2) (congrArg xs (by decide)) ?_
  refine lv_aload_n hx hb dL_law_561 rfl (lv_at hl 3 rfl) ?_
  refine lv_iload_n hx hb dL_law_562 rfl (lv_at hl 0 rfl) ?_
  refine lv_iconst (v := 3) hx hb dL_law_563 (by decide) ?_
  refine lv_iadd hx hb dL_law_564 ?_
  refine lv_topv (y := 3) (by decide) ?_
  refine va_sld hx hb hX hbl hbA hS (by unfold vp_in; decide) dL_law_565 ?_
  refine lv_topv (y := xs 3) (congrArg xs (by decide)) ?_
  refine eWi (wr := [(h, .inr (12, mG q i0))]) (va_runV (As := [.int (xs 1), .int (xs 2), .int (xs 3)]) (rest := []) ⟨hx, hb, hml, hown, hts⟩ (c_X11_gone l D cI cB cZ cJ [(cT, .object "NailStain$Text")] a (xs 1) (xs 2) (xs 3) H.size) (zV hts k_855 v_X11_gone ⟨Nat.le_of_ble_eq_true rfl, Nat.le_of_ble_eq_true rfl⟩) (pV (pxS hK hP hD [0, 1] (by decide) rfl) hK hP 0 rfl rfl) rfl rfl hl.1 rfl (lv_room (Nat.le_of_ble_eq_true rfl)) dL_law_566 ⟨Nat.le_of_ble_eq_true rfl, Nat.le_of_ble_eq_true rfl⟩) hP hD hS hA [0, 1] [2] rfl rfl (by decide) (by decide) (fun r_1 u_2 H locs wr_1 hP hD hS => ?_)
  have hP : va_P D vwCl [(h, .inr (12, mG q i0))] H := hP
  have hD : va_D A [(h, .inr (12, mG q i0))] := hD
  subst wr_1
  refine lv_aload_n hx hb dL_law_569 rfl (lv_at hl 1 rfl) ?_
  refine lv_aload_n hx hb dL_law_570 rfl (lv_at hl 3 rfl) ?_
  refine lv_iload_n hx hb dL_law_571 rfl (lv_at hl 0 rfl) ?_
  refine lv_iconst (v := 1) hx hb dL_law_572 (by decide) ?_
  refine lv_iadd hx hb dL_law_573 ?_
  refine lv_topv (y := 1) (by decide) ?_
  refine va_sld hx hb hX hbl hbA hS (by unfold vp_in; decide) dL_law_574 ?_
  refine lv_topv (y := xs 1) (congrArg xs (by decide)) ?_
  refine lv_aload_n hx hb dL_law_575 rfl (lv_at hl 3 rfl) ?_
  refine lv_iload_n hx hb dL_law_576 rfl (lv_at hl 0 rfl) ?_
  refine lv_iconst (v := 2) hx hb dL_law_577 (by decide) ?_
  refine lv_iadd hx hb dL_law_578 ?_
  refine lv_topv (y := 2) (by decide) ?_
  refine va_sld hx hb hX hbl hbA hS (by unfold vp_in; decide) dL_law_579 ?_
  refine lv_topv (y := xs 2) (congrArg xs (by decide)) ?_
  refine lv_aload_n hx hb dL_law_580 rfl (lv_at hl 3 rfl) ?_
  refine lv_iload_n hx hb dL_law_581 rfl (lv_at hl 0 rfl) ?_
  refine lv_iconst (v := 3) hx hb dL_law_582 (by decide) ?_
  refine lv_iadd hx hb dL_law_583 ?_
  refine lv_topv (y := 3) (by decide) ?_
  refine va_sld hx hb hX hbl hbA hS (by unfold vp_in; decide) dL_law_584 ?_
  refine lv_topv (y := xs 3) (congrArg xs (by decide)) ?_
  refine eWi (wr := []) (va_runV (As := [.int (xs 1), .int (xs 2), .int (xs 3)]) (rest := [.int 0]) ⟨hx, hb, hml, hown, hts⟩ (c_X12_gone l D cI cB cZ cJ [(cT, .object "NailStain$Text")] h q i0 (xs 1) (xs 2) (xs 3) rfl H.size) (zV hts k_1813 v_X12_gone ⟨Nat.le_of_ble_eq_true rfl, Nat.le_of_ble_eq_true rfl⟩) (pV (pxS hK hP hD [0] (by decide) rfl) hK hP 0 rfl rfl) rfl rfl hl.1 rfl (lv_room (Nat.le_of_ble_eq_true rfl)) dL_law_585 ⟨Nat.le_of_ble_eq_true rfl, Nat.le_of_ble_eq_true rfl⟩) hP hD hS hA [0] [] rfl rfl (by decide) (by decide) (fun r_3 u_4 H locs wr_3 hP hD hS => ?_)
  have hP : va_P D vwCl [] H := hP
  have hD : va_D A [] := hD
  subst wr_3
  refine lv_icmp_eq (tgt := 1939) hx hb dL_law_588 (by decide) (fun _ => ?_) (fun c => absurd rfl c)
  exact law_end hx hb hr hml hlocks hX hbl hbA hA hA2 hS hl

set_option maxHeartbeats 4000000 in
set_option maxRecDepth 100000 in
theorem law_c11 {p : Program} {l : Launch} {e : Env} {s : State} {m : MethodId} {below : List Frame} {meth : Method} {c : Code} {b : Nat} {xs : Nat → Int32} {H : Heap} {locs : List Loc} {ls : Array Slot} {A : Nat → Prop} (hx : p.tables.exec = Jvm.exec) (hb : c.code = cL_law) (hr : meth.sig.returnType = ret) (hml : c.maxLocals = 4) (hlocks : meth.locks = false) {D : va_G} {cI cB cZ cJ cT : ClassId} {h : Nat} {a q : Nat → Nat} {f g1 g2 : Nat → Int32} (hown : s.vm.findClass RL = some m.cls) (hts : ∀ w ∈ TBL, w.before #[Value.ref b] s = true) (hK : KX D cI cB cZ cJ [(cT, .object "NailStain$Text")] s) (hP : va_P D vwCl (xW cI cB cZ cJ cT a f ++ mW cI cB cZ cJ h q g1 g2 i0) H) (hD : va_D A (xW cI cB cZ cJ cT a f ++ mW cI cB cZ cJ h q g1 g2 i0)) (hX : va_X b 7 xs s s.heap) (hbl : b < s.heap.size) (hbA : ¬ A b) (hA : ∀ q, s.heap.size ≤ q → A q) (hA2 : ∀ q, A q → s.heap.size ≤ q) (hS : va_S A s.heap H locs) (hl : lv_has ls 4 [(3, .int 0), (2, .ref h), (1, .ref (a 0)), (0, .ref b)]) : W p l e room_1 s m #[Value.ref b] below meth c H locs 116 197732 (lw_Z below #[Value.ref b] s) (F0 m 593 ls []) := by
  have hP := hP.sub (ws' := [(a 0, .inr (11, [.ref (a 1), .ref (a 2), .ref (a 3), .ref (a 4), .ref (a 5), .ref (a 6), .ref (a 7), .ref (a 8), .ref (a 9), .ref (a 10), .ref (a 11), .ref (a 12), .int 100])), (a 5, .inr (4, [.ref (a 18), .ref (a 19), .ref (a 20), .ref (a 21), .ref (a 22), .ref (a 23), .ref (a 24), .int 0, .int 0, .int 0, .int 1])), (h, .inr (12, mG q i0))]) [0, 4, 27] rfl
  have hD := hD.sub (ws' := [(a 0, .inr (11, [.ref (a 1), .ref (a 2), .ref (a 3), .ref (a 4), .ref (a 5), .ref (a 6), .ref (a 7), .ref (a 8), .ref (a 9), .ref (a 10), .ref (a 11), .ref (a 12), .int 100])), (a 5, .inr (4, [.ref (a 18), .ref (a 19), .ref (a 20), .ref (a 21), .ref (a 22), .ref (a 23), .ref (a 24), .int 0, .int 0, .int 0, .int 1])), (h, .inr (12, mG q i0))]) [0, 4, 27] (by decide) rfl
  refine lv_aload_n hx hb dL_law_593 rfl (lv_at hl 2 rfl) ?_
  refine lv_aload_n hx hb dL_law_594 rfl (lv_at hl 3 rfl) ?_
  refine lv_iload_n hx hb dL_law_595 rfl (lv_at hl 0 rfl) ?_
  refine lv_iconst (v := 1) hx hb dL_law_596 (by decide) ?_
  refine lv_iadd hx hb dL_law_597 ?_
  refine lv_topv (y := 1) (by decide) ?_
  refine va_sld hx hb hX hbl hbA hS (by unfold vp_in; decide) dL_law_598 ?_
  refine lv_topv (y := xs 1) (congrArg xs (by decide)) ?_
  refine lv_aload_n hx hb dL_law_599 rfl (lv_at hl 3 rfl) ?_
  refine lv_iload_n hx hb dL_law_600 rfl (lv_at hl 0 rfl) ?_
  refine lv_iconst (v := 2) hx hb dL_law_601 (by decide) ?_
  refine lv_iadd hx hb dL_law_602 ?_
  refine lv_topv (y := 2) (by decide) ?_
  refine va_sld hx hb hX hbl hbA hS (by unfold vp_in; decide) dL_law_603 ?_
  refine lv_topv (y := xs 2) (congrArg xs (by decide)) ?_
  refine lv_aload_n hx hb dL_law_604 rfl (lv_at hl 3 rfl) ?_
  refine lv_iload_n hx hb dL_law_605 rfl (lv_at hl 0 rfl) ?_
  refine lv_iconst (v := 3) hx hb dL_law_606 (by decide) ?_
  refine lv_iadd hx hb dL_law_607 ?_
  refine lv_topv (y := 3) (by decide) ?_
  refine va_sld hx hb hX hbl hbA hS (by unfold vp_in; decide) dL_law_608 ?_
  refine lv_topv (y := xs 3) (congrArg xs (by decide)) ?_
  refine lv_aload_n hx hb dL_law_609 rfl (lv_at hl 3 rfl) ?_
  refine lv_iload_n hx hb dL_law_610 rfl (lv_at hl 0 rfl) ?_
  refine lv_iconst (v := 4) hx hb dL_law_611 (by decide) ?_
  refine lv_iadd hx hb dL_law_612 ?_
  refine lv_topv (y := 4) (by decide) ?_
  refine va_sld hx hb hX hbl hbA hS (by unfold vp_in; decide) dL_law_613 ?_
  refine lv_topv (y := xs 4) (congrArg xs (by decide)) ?_
  refine eWi (wr := [(h, .inr (12, mG q i0))]) (va_runV (As := [.int (xs 1), .int (xs 2), .int (xs 3), .int (xs 4)]) (rest := []) ⟨hx, hb, hml, hown, hts⟩ (c_X11_rivet l D cI cB cZ cJ [(cT, .object "NailStain$Text")] a (xs 1) (xs 2) (xs 3) (xs 4) H.size) (zV hts k_863 v_X11_rivet ⟨Nat.le_of_ble_eq_true rfl, Nat.le_of_ble_eq_true rfl⟩) (pV (pxS hK hP hD [0, 1] (by decide) rfl) hK hP 0 rfl rfl) rfl rfl hl.1 rfl (lv_room (Nat.le_of_ble_eq_true rfl)) dL_law_614 ⟨Nat.le_of_ble_eq_true rfl, Nat.le_of_ble_eq_true rfl⟩) hP hD hS hA [0, 1] [2] rfl rfl (by decide) (by decide) (fun r_1 u_2 H locs wr_1 hP hD hS => ?_)
  have hP : va_P D vwCl [(h, .inr (12, mG q i0))] H := hP
  have hD : va_D A [(h, .inr (12, mG q i0))] := hD
  subst wr_1
  refine lv_aload_n hx hb dL_law_617 rfl (lv_at hl 1 rfl) ?_
  refine lv_aload_n hx hb dL_law_618 rfl (lv_at hl 3 rfl) ?_
  refine lv_iload_n hx hb dL_law_619 rfl (lv_at hl 0 rfl) ?_
  refine lv_iconst (v := 1) hx hb dL_law_620 (by decide) ?_
  refine lv_iadd hx hb dL_law_621 ?_
  refine lv_topv (y := 1) (by decide) ?_
  refine va_sld hx hb hX hbl hbA hS (by unfold vp_in; decide) dL_law_622 ?_
  refine lv_topv (y := xs 1) (congrArg xs (by decide)) ?_
  refine lv_aload_n hx hb dL_law_623 rfl (lv_at hl 3 rfl) ?_
  refine lv_iload_n hx hb dL_law_624 rfl (lv_at hl 0 rfl) ?_
  refine lv_iconst (v := 2) hx hb dL_law_625 (by decide) ?_
  refine lv_iadd hx hb dL_law_626 ?_
  refine lv_topv (y := 2) (by decide) ?_
  refine va_sld hx hb hX hbl hbA hS (by unfold vp_in; decide) dL_law_627 ?_
  refine lv_topv (y := xs 2) (congrArg xs (by decide)) ?_
  refine lv_aload_n hx hb dL_law_628 rfl (lv_at hl 3 rfl) ?_
  refine lv_iload_n hx hb dL_law_629 rfl (lv_at hl 0 rfl) ?_
  refine lv_iconst (v := 3) hx hb dL_law_630 (by decide) ?_
  refine lv_iadd hx hb dL_law_631 ?_
  refine lv_topv (y := 3) (by decide) ?_
  refine va_sld hx hb hX hbl hbA hS (by unfold vp_in; decide) dL_law_632 ?_
  refine lv_topv (y := xs 3) (congrArg xs (by decide)) ?_
  refine lv_aload_n hx hb dL_law_633 rfl (lv_at hl 3 rfl) ?_
  refine lv_iload_n hx hb dL_law_634 rfl (lv_at hl 0 rfl) ?_
  refine lv_iconst (v := 4) hx hb dL_law_635 (by decide) ?_
  refine lv_iadd hx hb dL_law_636 ?_
  refine lv_topv (y := 4) (by decide) ?_
  refine va_sld hx hb hX hbl hbA hS (by unfold vp_in; decide) dL_law_637 ?_
  refine lv_topv (y := xs 4) (congrArg xs (by decide)) ?_
  refine eWi (wr := []) (va_runV (As := [.int (xs 1), .int (xs 2), .int (xs 3), .int (xs 4)]) (rest := [.int (-10000)]) ⟨hx, hb, hml, hown, hts⟩ (c_X12_rivet l D cI cB cZ cJ [(cT, .object "NailStain$Text")] h q i0 (xs 1) (xs 2) (xs 3) (xs 4) rfl H.size) (zV hts k_1817 v_X12_rivet ⟨Nat.le_of_ble_eq_true rfl, Nat.le_of_ble_eq_true rfl⟩) (pV (pxS hK hP hD [0] (by decide) rfl) hK hP 0 rfl rfl) rfl rfl hl.1 rfl (lv_room (Nat.le_of_ble_eq_true rfl)) dL_law_638 ⟨Nat.le_of_ble_eq_true rfl, Nat.le_of_ble_eq_true rfl⟩) hP hD hS hA [0] [] rfl rfl (by decide) (by decide) (fun r_3 u_4 H locs wr_3 hP hD hS => ?_)
  have hP : va_P D vwCl [] H := hP
  have hD : va_D A [] := hD
  subst wr_3
  refine lv_icmp_eq (tgt := 1939) hx hb dL_law_641 (by decide) (fun _ => ?_) (fun c => absurd rfl c)
  exact law_end hx hb hr hml hlocks hX hbl hbA hA hA2 hS hl

set_option maxHeartbeats 4000000 in
set_option maxRecDepth 100000 in
theorem law_c12 {p : Program} {l : Launch} {e : Env} {s : State} {m : MethodId} {below : List Frame} {meth : Method} {c : Code} {b : Nat} {xs : Nat → Int32} {H : Heap} {locs : List Loc} {ls : Array Slot} {A : Nat → Prop} (hx : p.tables.exec = Jvm.exec) (hb : c.code = cL_law) (hr : meth.sig.returnType = ret) (hml : c.maxLocals = 4) (hlocks : meth.locks = false) {D : va_G} {cI cB cZ cJ cT : ClassId} {h : Nat} {a q : Nat → Nat} {f g1 g2 : Nat → Int32} (hown : s.vm.findClass RL = some m.cls) (hts : ∀ w ∈ TBL, w.before #[Value.ref b] s = true) (hK : KX D cI cB cZ cJ [(cT, .object "NailStain$Text")] s) (hP : va_P D vwCl (xW cI cB cZ cJ cT a f ++ mW cI cB cZ cJ h q g1 g2 i0) H) (hD : va_D A (xW cI cB cZ cJ cT a f ++ mW cI cB cZ cJ h q g1 g2 i0)) (hX : va_X b 7 xs s s.heap) (hbl : b < s.heap.size) (hbA : ¬ A b) (hA : ∀ q, s.heap.size ≤ q → A q) (hA2 : ∀ q, A q → s.heap.size ≤ q) (hS : va_S A s.heap H locs) (hl : lv_has ls 4 [(3, .int 0), (2, .ref h), (1, .ref (a 0)), (0, .ref b)]) : W p l e room_1 s m #[Value.ref b] below meth c H locs 116 197732 (lw_Z below #[Value.ref b] s) (F0 m 646 ls []) := by
  have hP := hP.sub (ws' := [(a 0, .inr (11, [.ref (a 1), .ref (a 2), .ref (a 3), .ref (a 4), .ref (a 5), .ref (a 6), .ref (a 7), .ref (a 8), .ref (a 9), .ref (a 10), .ref (a 11), .ref (a 12), .int 100])), (a 5, .inr (4, [.ref (a 18), .ref (a 19), .ref (a 20), .ref (a 21), .ref (a 22), .ref (a 23), .ref (a 24), .int 0, .int 0, .int 0, .int 1])), (a 23, .inl (cI, 8, .inl (fun _ => 0))), (h, .inr (12, mG q i0)), (q 66, .inl (cZ, 8, .inl (fun _ => 0)))]) [0, 4, 20, 27, 32] rfl
  have hD := hD.sub (ws' := [(a 0, .inr (11, [.ref (a 1), .ref (a 2), .ref (a 3), .ref (a 4), .ref (a 5), .ref (a 6), .ref (a 7), .ref (a 8), .ref (a 9), .ref (a 10), .ref (a 11), .ref (a 12), .int 100])), (a 5, .inr (4, [.ref (a 18), .ref (a 19), .ref (a 20), .ref (a 21), .ref (a 22), .ref (a 23), .ref (a 24), .int 0, .int 0, .int 0, .int 1])), (a 23, .inl (cI, 8, .inl (fun _ => 0))), (h, .inr (12, mG q i0)), (q 66, .inl (cZ, 8, .inl (fun _ => 0)))]) [0, 4, 20, 27, 32] (by decide) rfl
  refine lv_aload_n hx hb dL_law_646 rfl (lv_at hl 2 rfl) ?_
  refine lv_aload_n hx hb dL_law_647 rfl (lv_at hl 3 rfl) ?_
  refine lv_iload_n hx hb dL_law_648 rfl (lv_at hl 0 rfl) ?_
  refine lv_iconst (v := 1) hx hb dL_law_649 (by decide) ?_
  refine lv_iadd hx hb dL_law_650 ?_
  refine lv_topv (y := 1) (by decide) ?_
  refine va_sld hx hb hX hbl hbA hS (by unfold vp_in; decide) dL_law_651 ?_
  refine lv_topv (y := xs 1) (congrArg xs (by decide)) ?_
  refine eWi (wr := [(h, .inr (12, mG q i0)), (q 66, .inl (cZ, 8, .inl (fun _ => 0)))]) (va_runV (As := [.int (xs 1)]) (rest := []) ⟨hx, hb, hml, hown, hts⟩ (c_X11_cut l D cI cB cZ cJ [(cT, .object "NailStain$Text")] a (xs 1) H.size) (zV hts k_875 v_X11_cut ⟨Nat.le_of_ble_eq_true rfl, Nat.le_of_ble_eq_true rfl⟩) (pV (pxS hK hP hD [0, 1, 2] (by decide) rfl) hK hP 0 rfl rfl) rfl rfl hl.1 rfl (lv_room (Nat.le_of_ble_eq_true rfl)) dL_law_652 ⟨Nat.le_of_ble_eq_true rfl, Nat.le_of_ble_eq_true rfl⟩) hP hD hS hA [0, 1, 2] [3, 4] rfl rfl (by decide) (by decide) (fun r_1 u_2 H locs wr_1 hP hD hS => ?_)
  have hP : va_P D vwCl [(h, .inr (12, mG q i0)), (q 66, .inl (cZ, 8, .inl (fun _ => 0)))] H := hP
  have hD : va_D A [(h, .inr (12, mG q i0)), (q 66, .inl (cZ, 8, .inl (fun _ => 0)))] := hD
  subst wr_1
  refine lv_aload_n hx hb dL_law_655 rfl (lv_at hl 1 rfl) ?_
  refine lv_aload_n hx hb dL_law_656 rfl (lv_at hl 3 rfl) ?_
  refine lv_iload_n hx hb dL_law_657 rfl (lv_at hl 0 rfl) ?_
  refine lv_iconst (v := 1) hx hb dL_law_658 (by decide) ?_
  refine lv_iadd hx hb dL_law_659 ?_
  refine lv_topv (y := 1) (by decide) ?_
  refine va_sld hx hb hX hbl hbA hS (by unfold vp_in; decide) dL_law_660 ?_
  refine lv_topv (y := xs 1) (congrArg xs (by decide)) ?_
  refine eWi (wr := []) (va_runV (As := [.int (xs 1)]) (rest := [.int (bi ((xs 1) = 0))]) ⟨hx, hb, hml, hown, hts⟩ (c_X12_cut l D cI cB cZ cJ [(cT, .object "NailStain$Text")] h q i0 (xs 1) rfl H.size) (zV hts k_1828 v_X12_cut ⟨Nat.le_of_ble_eq_true rfl, Nat.le_of_ble_eq_true rfl⟩) (pV (pxS hK hP hD [0, 1] (by decide) rfl) hK hP 0 rfl rfl) rfl rfl hl.1 rfl (lv_room (Nat.le_of_ble_eq_true rfl)) dL_law_661 ⟨Nat.le_of_ble_eq_true rfl, Nat.le_of_ble_eq_true rfl⟩) hP hD hS hA [0, 1] [] rfl rfl (by decide) (by decide) (fun r_3 u_4 H locs wr_3 hP hD hS => ?_)
  have hP : va_P D vwCl [] H := hP
  have hD : va_D A [] := hD
  subst wr_3
  refine lv_icmp_eq (tgt := 1939) hx hb dL_law_664 (by decide) (fun _ => ?_) (fun c => absurd rfl c)
  exact law_end hx hb hr hml hlocks hX hbl hbA hA hA2 hS hl

set_option maxHeartbeats 4000000 in
set_option maxRecDepth 100000 in
theorem law_c13 {p : Program} {l : Launch} {e : Env} {s : State} {m : MethodId} {below : List Frame} {meth : Method} {c : Code} {b : Nat} {xs : Nat → Int32} {H : Heap} {locs : List Loc} {ls : Array Slot} {A : Nat → Prop} (hx : p.tables.exec = Jvm.exec) (hb : c.code = cL_law) (hr : meth.sig.returnType = ret) (hml : c.maxLocals = 4) (hlocks : meth.locks = false) {D : va_G} {cI cB cZ cJ cT : ClassId} {h : Nat} {a q : Nat → Nat} {f g1 g2 : Nat → Int32} (hown : s.vm.findClass RL = some m.cls) (hts : ∀ w ∈ TBL, w.before #[Value.ref b] s = true) (hK : KX D cI cB cZ cJ [(cT, .object "NailStain$Text")] s) (hP : va_P D vwCl (xW cI cB cZ cJ cT a f ++ mW cI cB cZ cJ h q g1 g2 i0) H) (hD : va_D A (xW cI cB cZ cJ cT a f ++ mW cI cB cZ cJ h q g1 g2 i0)) (hX : va_X b 7 xs s s.heap) (hbl : b < s.heap.size) (hbA : ¬ A b) (hA : ∀ q, s.heap.size ≤ q → A q) (hA2 : ∀ q, A q → s.heap.size ≤ q) (hS : va_S A s.heap H locs) (hl : lv_has ls 4 [(3, .int 0), (2, .ref h), (1, .ref (a 0)), (0, .ref b)]) : W p l e room_1 s m #[Value.ref b] below meth c H locs 116 197732 (lw_Z below #[Value.ref b] s) (F0 m 669 ls []) := by
  have hP := hP.sub (ws' := [(a 0, .inr (11, [.ref (a 1), .ref (a 2), .ref (a 3), .ref (a 4), .ref (a 5), .ref (a 6), .ref (a 7), .ref (a 8), .ref (a 9), .ref (a 10), .ref (a 11), .ref (a 12), .int 100])), (a 5, .inr (4, [.ref (a 18), .ref (a 19), .ref (a 20), .ref (a 21), .ref (a 22), .ref (a 23), .ref (a 24), .int 0, .int 0, .int 0, .int 1])), (h, .inr (12, mG q i0))]) [0, 4, 27] rfl
  have hD := hD.sub (ws' := [(a 0, .inr (11, [.ref (a 1), .ref (a 2), .ref (a 3), .ref (a 4), .ref (a 5), .ref (a 6), .ref (a 7), .ref (a 8), .ref (a 9), .ref (a 10), .ref (a 11), .ref (a 12), .int 100])), (a 5, .inr (4, [.ref (a 18), .ref (a 19), .ref (a 20), .ref (a 21), .ref (a 22), .ref (a 23), .ref (a 24), .int 0, .int 0, .int 0, .int 1])), (h, .inr (12, mG q i0))]) [0, 4, 27] (by decide) rfl
  refine lv_aload_n hx hb dL_law_669 rfl (lv_at hl 2 rfl) ?_
  refine lv_aload_n hx hb dL_law_670 rfl (lv_at hl 3 rfl) ?_
  refine lv_iload_n hx hb dL_law_671 rfl (lv_at hl 0 rfl) ?_
  refine lv_iconst (v := 1) hx hb dL_law_672 (by decide) ?_
  refine lv_iadd hx hb dL_law_673 ?_
  refine lv_topv (y := 1) (by decide) ?_
  refine va_sld hx hb hX hbl hbA hS (by unfold vp_in; decide) dL_law_674 ?_
  refine lv_topv (y := xs 1) (congrArg xs (by decide)) ?_
  refine eWi (wr := [(h, .inr (12, mG q i0))]) (va_runV (As := [.int (xs 1)]) (rest := []) ⟨hx, hb, hml, hown, hts⟩ (c_X11_drawing l D cI cB cZ cJ [(cT, .object "NailStain$Text")] a (xs 1) H.size) (zV hts k_887 v_X11_drawing ⟨Nat.le_of_ble_eq_true rfl, Nat.le_of_ble_eq_true rfl⟩) (pV (pxS hK hP hD [0, 1] (by decide) rfl) hK hP 0 rfl rfl) rfl rfl hl.1 rfl (lv_room (Nat.le_of_ble_eq_true rfl)) dL_law_675 ⟨Nat.le_of_ble_eq_true rfl, Nat.le_of_ble_eq_true rfl⟩) hP hD hS hA [0, 1] [2] rfl rfl (by decide) (by decide) (fun r_1 u_2 H locs wr_1 hP hD hS => ?_)
  have hP : va_P D vwCl [(h, .inr (12, mG q i0))] H := hP
  have hD : va_D A [(h, .inr (12, mG q i0))] := hD
  subst wr_1
  refine lv_aload_n hx hb dL_law_678 rfl (lv_at hl 1 rfl) ?_
  refine lv_aload_n hx hb dL_law_679 rfl (lv_at hl 3 rfl) ?_
  refine lv_iload_n hx hb dL_law_680 rfl (lv_at hl 0 rfl) ?_
  refine lv_iconst (v := 1) hx hb dL_law_681 (by decide) ?_
  refine lv_iadd hx hb dL_law_682 ?_
  refine lv_topv (y := 1) (by decide) ?_
  refine va_sld hx hb hX hbl hbA hS (by unfold vp_in; decide) dL_law_683 ?_
  refine lv_topv (y := xs 1) (congrArg xs (by decide)) ?_
  refine eWi (wr := []) (va_runV (As := [.int (xs 1)]) (rest := [.int (-1)]) ⟨hx, hb, hml, hown, hts⟩ (c_X12_drawing l D cI cB cZ cJ [(cT, .object "NailStain$Text")] h q i0 (xs 1) rfl H.size) (zV hts k_1832 v_X12_drawing ⟨Nat.le_of_ble_eq_true rfl, Nat.le_of_ble_eq_true rfl⟩) (pV (pxS hK hP hD [0] (by decide) rfl) hK hP 0 rfl rfl) rfl rfl hl.1 rfl (lv_room (Nat.le_of_ble_eq_true rfl)) dL_law_684 ⟨Nat.le_of_ble_eq_true rfl, Nat.le_of_ble_eq_true rfl⟩) hP hD hS hA [0] [] rfl rfl (by decide) (by decide) (fun r_3 u_4 H locs wr_3 hP hD hS => ?_)
  have hP : va_P D vwCl [] H := hP
  have hD : va_D A [] := hD
  subst wr_3
  refine lv_icmp_eq (tgt := 1939) hx hb dL_law_687 (by decide) (fun _ => ?_) (fun c => absurd rfl c)
  exact law_end hx hb hr hml hlocks hX hbl hbA hA hA2 hS hl

set_option maxHeartbeats 4000000 in
set_option maxRecDepth 100000 in
theorem law_c14 {p : Program} {l : Launch} {e : Env} {s : State} {m : MethodId} {below : List Frame} {meth : Method} {c : Code} {b : Nat} {xs : Nat → Int32} {H : Heap} {locs : List Loc} {ls : Array Slot} {A : Nat → Prop} (hx : p.tables.exec = Jvm.exec) (hb : c.code = cL_law) (hr : meth.sig.returnType = ret) (hml : c.maxLocals = 4) (hlocks : meth.locks = false) {D : va_G} {cI cB cZ cJ cT : ClassId} {h : Nat} {a q : Nat → Nat} {f g1 g2 : Nat → Int32} (hown : s.vm.findClass RL = some m.cls) (hts : ∀ w ∈ TBL, w.before #[Value.ref b] s = true) (hK : KX D cI cB cZ cJ [(cT, .object "NailStain$Text")] s) (hP : va_P D vwCl (xW cI cB cZ cJ cT a f ++ mW cI cB cZ cJ h q g1 g2 i0) H) (hD : va_D A (xW cI cB cZ cJ cT a f ++ mW cI cB cZ cJ h q g1 g2 i0)) (hX : va_X b 7 xs s s.heap) (hbl : b < s.heap.size) (hbA : ¬ A b) (hA : ∀ q, s.heap.size ≤ q → A q) (hA2 : ∀ q, A q → s.heap.size ≤ q) (hS : va_S A s.heap H locs) (hl : lv_has ls 4 [(3, .int 0), (2, .ref h), (1, .ref (a 0)), (0, .ref b)]) : W p l e room_1 s m #[Value.ref b] below meth c H locs 116 197732 (lw_Z below #[Value.ref b] s) (F0 m 692 ls []) := by
  have hP := hP.sub (ws' := [(a 0, .inr (11, [.ref (a 1), .ref (a 2), .ref (a 3), .ref (a 4), .ref (a 5), .ref (a 6), .ref (a 7), .ref (a 8), .ref (a 9), .ref (a 10), .ref (a 11), .ref (a 12), .int 100])), (a 5, .inr (4, [.ref (a 18), .ref (a 19), .ref (a 20), .ref (a 21), .ref (a 22), .ref (a 23), .ref (a 24), .int 0, .int 0, .int 0, .int 1])), (h, .inr (12, mG q i0))]) [0, 4, 27] rfl
  have hD := hD.sub (ws' := [(a 0, .inr (11, [.ref (a 1), .ref (a 2), .ref (a 3), .ref (a 4), .ref (a 5), .ref (a 6), .ref (a 7), .ref (a 8), .ref (a 9), .ref (a 10), .ref (a 11), .ref (a 12), .int 100])), (a 5, .inr (4, [.ref (a 18), .ref (a 19), .ref (a 20), .ref (a 21), .ref (a 22), .ref (a 23), .ref (a 24), .int 0, .int 0, .int 0, .int 1])), (h, .inr (12, mG q i0))]) [0, 4, 27] (by decide) rfl
  refine lv_aload_n hx hb dL_law_692 rfl (lv_at hl 2 rfl) ?_
  refine lv_aload_n hx hb dL_law_693 rfl (lv_at hl 3 rfl) ?_
  refine lv_iload_n hx hb dL_law_694 rfl (lv_at hl 0 rfl) ?_
  refine lv_iconst (v := 1) hx hb dL_law_695 (by decide) ?_
  refine lv_iadd hx hb dL_law_696 ?_
  refine lv_topv (y := 1) (by decide) ?_
  refine va_sld hx hb hX hbl hbA hS (by unfold vp_in; decide) dL_law_697 ?_
  refine lv_topv (y := xs 1) (congrArg xs (by decide)) ?_
  refine lv_aload_n hx hb dL_law_698 rfl (lv_at hl 3 rfl) ?_
  refine lv_iload_n hx hb dL_law_699 rfl (lv_at hl 0 rfl) ?_
  refine lv_iconst (v := 2) hx hb dL_law_700 (by decide) ?_
  refine lv_iadd hx hb dL_law_701 ?_
  refine lv_topv (y := 2) (by decide) ?_
  refine va_sld hx hb hX hbl hbA hS (by unfold vp_in; decide) dL_law_702 ?_
  refine lv_topv (y := xs 2) (congrArg xs (by decide)) ?_
  refine lv_aload_n hx hb dL_law_703 rfl (lv_at hl 3 rfl) ?_
  refine lv_iload_n hx hb dL_law_704 rfl (lv_at hl 0 rfl) ?_
  refine lv_iconst (v := 3) hx hb dL_law_705 (by decide) ?_
  refine lv_iadd hx hb dL_law_706 ?_
  refine lv_topv (y := 3) (by decide) ?_
  refine va_sld hx hb hX hbl hbA hS (by unfold vp_in; decide) dL_law_707 ?_
  refine lv_topv (y := xs 3) (congrArg xs (by decide)) ?_
  refine lv_aload_n hx hb dL_law_708 rfl (lv_at hl 3 rfl) ?_
  refine lv_iload_n hx hb dL_law_709 rfl (lv_at hl 0 rfl) ?_
  refine lv_iconst (v := 4) hx hb dL_law_710 (by decide) ?_
  refine lv_iadd hx hb dL_law_711 ?_
  refine lv_topv (y := 4) (by decide) ?_
  refine va_sld hx hb hX hbl hbA hS (by unfold vp_in; decide) dL_law_712 ?_
  refine lv_topv (y := xs 4) (congrArg xs (by decide)) ?_
  refine lv_aload_n hx hb dL_law_713 rfl (lv_at hl 3 rfl) ?_
  refine lv_iload_n hx hb dL_law_714 rfl (lv_at hl 0 rfl) ?_
  refine lv_iconst (v := 5) hx hb dL_law_715 (by decide) ?_
  refine lv_iadd hx hb dL_law_716 ?_
  refine lv_topv (y := 5) (by decide) ?_
  refine va_sld hx hb hX hbl hbA hS (by unfold vp_in; decide) dL_law_717 ?_
  refine lv_topv (y := xs 5) (congrArg xs (by decide)) ?_
  refine lv_aload_n hx hb dL_law_718 rfl (lv_at hl 3 rfl) ?_
  refine lv_iload_n hx hb dL_law_719 rfl (lv_at hl 0 rfl) ?_
  refine lv_bipush (v := 6) hx hb dL_law_720 (by decide) ?_
  refine lv_iadd hx hb dL_law_722 ?_
  refine lv_topv (y := 6) (by decide) ?_
  refine va_sld hx hb hX hbl hbA hS (by unfold vp_in; decide) dL_law_723 ?_
  refine lv_topv (y := xs 6) (congrArg xs (by decide)) ?_
  refine eWi (wr := [(h, .inr (12, mG q i0))]) (va_runV (As := [.int (xs 1), .int (xs 2), .int (xs 3), .int (xs 4), .int (xs 5), .int (xs 6)]) (rest := []) ⟨hx, hb, hml, hown, hts⟩ (c_X11_mark l D cI cB cZ cJ [(cT, .object "NailStain$Text")] a (xs 1) (xs 2) (xs 3) (xs 4) (xs 5) (xs 6) H.size) (zV hts k_895 v_X11_mark ⟨Nat.le_of_ble_eq_true rfl, Nat.le_of_ble_eq_true rfl⟩) (pV (pxS hK hP hD [0, 1] (by decide) rfl) hK hP 0 rfl rfl) rfl rfl hl.1 rfl (lv_room (Nat.le_of_ble_eq_true rfl)) dL_law_724 ⟨Nat.le_of_ble_eq_true rfl, Nat.le_of_ble_eq_true rfl⟩) hP hD hS hA [0, 1] [2] rfl rfl (by decide) (by decide) (fun r_1 u_2 H locs wr_1 hP hD hS => ?_)
  have hP : va_P D vwCl [(h, .inr (12, mG q i0))] H := hP
  have hD : va_D A [(h, .inr (12, mG q i0))] := hD
  subst wr_1
  refine lv_aload_n hx hb dL_law_727 rfl (lv_at hl 1 rfl) ?_
  refine lv_aload_n hx hb dL_law_728 rfl (lv_at hl 3 rfl) ?_
  refine lv_iload_n hx hb dL_law_729 rfl (lv_at hl 0 rfl) ?_
  refine lv_iconst (v := 1) hx hb dL_law_730 (by decide) ?_
  refine lv_iadd hx hb dL_law_731 ?_
  refine lv_topv (y := 1) (by decide) ?_
  refine va_sld hx hb hX hbl hbA hS (by unfold vp_in; decide) dL_law_732 ?_
  refine lv_topv (y := xs 1) (congrArg xs (by decide)) ?_
  refine lv_aload_n hx hb dL_law_733 rfl (lv_at hl 3 rfl) ?_
  refine lv_iload_n hx hb dL_law_734 rfl (lv_at hl 0 rfl) ?_
  refine lv_iconst (v := 2) hx hb dL_law_735 (by decide) ?_
  refine lv_iadd hx hb dL_law_736 ?_
  refine lv_topv (y := 2) (by decide) ?_
  refine va_sld hx hb hX hbl hbA hS (by unfold vp_in; decide) dL_law_737 ?_
  refine lv_topv (y := xs 2) (congrArg xs (by decide)) ?_
  refine lv_aload_n hx hb dL_law_738 rfl (lv_at hl 3 rfl) ?_
  refine lv_iload_n hx hb dL_law_739 rfl (lv_at hl 0 rfl) ?_
  refine lv_iconst (v := 3) hx hb dL_law_740 (by decide) ?_
  refine lv_iadd hx hb dL_law_741 ?_
  refine lv_topv (y := 3) (by decide) ?_
  refine va_sld hx hb hX hbl hbA hS (by unfold vp_in; decide) dL_law_742 ?_
  refine lv_topv (y := xs 3) (congrArg xs (by decide)) ?_
  refine lv_aload_n hx hb dL_law_743 rfl (lv_at hl 3 rfl) ?_
  refine lv_iload_n hx hb dL_law_744 rfl (lv_at hl 0 rfl) ?_
  refine lv_iconst (v := 4) hx hb dL_law_745 (by decide) ?_
  refine lv_iadd hx hb dL_law_746 ?_
  refine lv_topv (y := 4) (by decide) ?_
  refine va_sld hx hb hX hbl hbA hS (by unfold vp_in; decide) dL_law_747 ?_
  refine lv_topv (y := xs 4) (congrArg xs (by decide)) ?_
  refine lv_aload_n hx hb dL_law_748 rfl (lv_at hl 3 rfl) ?_
  refine lv_iload_n hx hb dL_law_749 rfl (lv_at hl 0 rfl) ?_
  refine lv_iconst (v := 5) hx hb dL_law_750 (by decide) ?_
  refine lv_iadd hx hb dL_law_751 ?_
  refine lv_topv (y := 5) (by decide) ?_
  refine va_sld hx hb hX hbl hbA hS (by unfold vp_in; decide) dL_law_752 ?_
  refine lv_topv (y := xs 5) (congrArg xs (by decide)) ?_
  refine lv_aload_n hx hb dL_law_753 rfl (lv_at hl 3 rfl) ?_
  refine lv_iload_n hx hb dL_law_754 rfl (lv_at hl 0 rfl) ?_
  refine lv_bipush (v := 6) hx hb dL_law_755 (by decide) ?_
  refine lv_iadd hx hb dL_law_757 ?_
  refine lv_topv (y := 6) (by decide) ?_
  refine va_sld hx hb hX hbl hbA hS (by unfold vp_in; decide) dL_law_758 ?_
  refine lv_topv (y := xs 6) (congrArg xs (by decide)) ?_
  refine eWi (wr := []) (va_runV (As := [.int (xs 1), .int (xs 2), .int (xs 3), .int (xs 4), .int (xs 5), .int (xs 6)]) (rest := [.int 0]) ⟨hx, hb, hml, hown, hts⟩ (c_X12_mark l D cI cB cZ cJ [(cT, .object "NailStain$Text")] h q i0 (xs 1) (xs 2) (xs 3) (xs 4) (xs 5) (xs 6) rfl H.size) (zV hts k_1837 v_X12_mark ⟨Nat.le_of_ble_eq_true rfl, Nat.le_of_ble_eq_true rfl⟩) (pV (pxS hK hP hD [0] (by decide) rfl) hK hP 0 rfl rfl) rfl rfl hl.1 rfl (lv_room (Nat.le_of_ble_eq_true rfl)) dL_law_759 ⟨Nat.le_of_ble_eq_true rfl, Nat.le_of_ble_eq_true rfl⟩) hP hD hS hA [0] [] rfl rfl (by decide) (by decide) (fun r_3 u_4 H locs wr_3 hP hD hS => ?_)
  have hP : va_P D vwCl [] H := hP
  have hD : va_D A [] := hD
  subst wr_3
  refine lv_icmp_eq (tgt := 1939) hx hb dL_law_762 (by decide) (fun _ => ?_) (fun c => absurd rfl c)
  exact law_end hx hb hr hml hlocks hX hbl hbA hA hA2 hS hl
