theorem ar_of {ty : FieldType} {args : Array Value} {s : State} (h : (Cond.arrayClass ty).before args s = true) : ∃ cA, s.vm.findClass ("[" ++ ty.toString) = some cA ∧ ArrOfT s cA ty := by
  obtain ⟨c, k, comp, h1, h2, h3⟩ := Cond.arrayClass_spec (args := args) (first := s) (o := none) (s := s) (idx := []) h
  exact ⟨c, h1, fun n z => ⟨fun k h => (by cases h), k, h2, comp, h3⟩⟩
theorem tx_of {C : String} {args : Array Value} {s : State} (h : (Cond.arrayOver (.object C)).before args s = true) : ∃ cT, ArrOfT s cT (.object C) ∧ va_RA s cT (.object C) := by
  obtain ⟨comp, c, k, h1, h2, h3, h4, h5⟩ := Cond.arrayOver_spec (args := args) (first := s) (o := none) (s := s) (idx := []) h
  exact ⟨c, fun n z => ⟨fun k h => (by cases h), k, h3, comp, h4⟩, k, comp, h3, h4, h1, h5⟩
theorem sr_of {own tx : String} {k : Nat} {args : Array Value} {s : State} (h1 : (Cond.stringRef own k tx).before args s = true) (h2 : (Cond.exactly (.string own k) "java/lang/String").before args s = true) : ∃ q, vk_R own k tx q s := by
  obtain ⟨a, c, cA, kA, q1, -⟩ := Cond.exactly_spec (args := args) (first := s) (o := none) (s := s) (idx := []) (t := .string own k) (cls := "java/lang/String") h2
  exact ⟨a, vk_R.of h1 q1⟩
set_option maxHeartbeats 4000000 in
set_option maxRecDepth 100000 in
theorem law_KX {s : State} {b : Nat} (hts0 : ∀ w ∈ lw_tbl, w.before #[Value.ref b] s = true) (hgv : (Jvm.Cond.and given_1 narrow_1).before #[Value.ref b] s = true) : ∃ (D : va_G) (cI cB cZ cJ cT : ClassId), KX D cI cB cZ cJ [(cT, .object "NailStain$Text")] s := by
  have hT : ∀ w ∈ TBL, w.before #[Value.ref b] s = true := fun w h => hts0 w (List.mem_filter.mp h).1
  have hN : ∀ w ∈ NWs, va_Nw w s := fun w h => va_Nw.of (by have h2 := (List.mem_filter.mp h).2; cases w <;> first | (simp [wNest] at h2; done) | rfl) (hts0 w (List.mem_filter.mp h).1)
  have hs := flat_of_before _ hgv
  have hAO : (Cond.arrayOver (.object "NailStain$Text")).before #[Value.ref b] s = true := hts0 _ (List.mem_of_getElem? (i := 188) (by decide +kernel))
  obtain ⟨cI, hI, aI⟩ := ar_of (hT _ k_224)
  obtain ⟨cB, hB, aB⟩ := ar_of (hT _ k_158)
  obtain ⟨cZ, hZ, aZ⟩ := ar_of (hT _ k_287)
  obtain ⟨cJ, hJ, aJ⟩ := ar_of (hT _ k_364)
  obtain ⟨cT, aT, rT⟩ := tx_of hAO
  have s1 : ∃ q, vk_R RX11 119 "yz" q s := sr_of (hts0 _ (List.mem_of_getElem? (i := 551) (by decide +kernel))) (hs _ (by decide +kernel))
  have s2 : ∃ q, vk_R RX11 125 "abg" q s := sr_of (hts0 _ (List.mem_of_getElem? (i := 743) (by decide +kernel))) (hs _ (by decide +kernel))
  have s3 : ∃ q, vk_R RX11 127 "e" q s := sr_of (hts0 _ (List.mem_of_getElem? (i := 748) (by decide +kernel))) (hs _ (by decide +kernel))
  obtain ⟨x0, y0, z0⟩ := u_known (C := RX0) (T := TX0) (N := 7) (n := 7) hT inT_X0 (hT _ k_289)
  obtain ⟨x1, y1, z1⟩ := u_known (C := RX1) (T := TX1) (N := 7) (n := 7) hT inT_X1 (hT _ k_366)
  obtain ⟨x2, y2, z2⟩ := u_known (C := RX2) (T := TX2) (N := 12) (n := 12) hT inT_X2 (hT _ k_318)
  obtain ⟨x3, y3, z3⟩ := u_known (C := RX3) (T := TX3) (N := 7) (n := 7) hT inT_X3 (hT _ k_160)
  obtain ⟨x4, y4, z4⟩ := u_known (C := RX4) (T := TX4) (N := 11) (n := 11) hT inT_X4 (hT _ k_226)
  obtain ⟨x5, y5, z5⟩ := u_known (C := RX5) (T := TX5) (N := 6) (n := 6) hT inT_X5 (hT _ k_396)
  obtain ⟨x6, y6, z6⟩ := u_known (C := RX6) (T := TX6) (N := 6) (n := 6) hT inT_X6 (hT _ k_436)
  obtain ⟨x7, y7, z7⟩ := u_known (C := RX7) (T := TX7) (N := 3) (n := 3) hT inT_X7 (hT _ k_466)
  obtain ⟨x8, y8, z8⟩ := u_known (C := RX8) (T := TX8) (N := 2) (n := 2) hT inT_X8 (hT _ k_145)
  obtain ⟨x9, y9, z9⟩ := u_known (C := RX9) (T := TX9) (N := 9) (n := 9) hT inT_X9 (hT _ k_189)
  obtain ⟨x10, y10, z10⟩ := u_known (C := RX10) (T := TX10) (N := 2) (n := 2) hT inT_X10 (hT _ k_423)
  obtain ⟨x11, y11, z11⟩ := u_known (C := RX11) (T := TX11) (N := 13) (n := 13) hT inT_X11 (hT _ k_137)
  obtain ⟨x12, y12, z12⟩ := u_known (C := RX12) (T := TX12) (N := 81) (n := 81) hT inT_X12 (hT _ k_1347)
  have ex : ∀ k : Nat, ∃ cC : ClassId, ∃ iS : Nat → Nat, ∀ q : vw_C, vwCl[k]? = some q → u_Kn s q.1 q.2.1 q.2.2 cC iS := by
    intro k
    match k with
    | 0 => exact ⟨x0, y0, fun q hq => by cases hq; exact z0⟩
    | 1 => exact ⟨x1, y1, fun q hq => by cases hq; exact z1⟩
    | 2 => exact ⟨x2, y2, fun q hq => by cases hq; exact z2⟩
    | 3 => exact ⟨x3, y3, fun q hq => by cases hq; exact z3⟩
    | 4 => exact ⟨x4, y4, fun q hq => by cases hq; exact z4⟩
    | 5 => exact ⟨x5, y5, fun q hq => by cases hq; exact z5⟩
    | 6 => exact ⟨x6, y6, fun q hq => by cases hq; exact z6⟩
    | 7 => exact ⟨x7, y7, fun q hq => by cases hq; exact z7⟩
    | 8 => exact ⟨x8, y8, fun q hq => by cases hq; exact z8⟩
    | 9 => exact ⟨x9, y9, fun q hq => by cases hq; exact z9⟩
    | 10 => exact ⟨x10, y10, fun q hq => by cases hq; exact z10⟩
    | 11 => exact ⟨x11, y11, fun q hq => by cases hq; exact z11⟩
    | 12 => exact ⟨x12, y12, fun q hq => by cases hq; exact z12⟩
    | k + 13 => exact ⟨x0, y0, fun q hq => by simp [vwCl] at hq⟩
  obtain ⟨dC, h1⟩ := Classical.skolem.mp ex
  obtain ⟨dI, h2⟩ := Classical.skolem.mp h1
  refine ⟨(dC, dI), cI, cB, cZ, cJ, cT, ⟨fun k q hq => h2 k q hq, fun k q hk => ?_⟩, ⟨hI, hB, hZ, hJ⟩, hN, ⟨s1, s2, s3⟩, va_AO.of hAO⟩
  match k, hk with
  | 0, hk => cases hk; exact ⟨aI, hI⟩
  | 1, hk => cases hk; exact ⟨aB, hB⟩
  | 2, hk => cases hk; exact ⟨aZ, hZ⟩
  | 3, hk => cases hk; exact ⟨aJ, hJ⟩
  | 4, hk => cases hk; exact ⟨aT, rT⟩
  | k + 5, hk => simp [TYS] at hk
set_option maxHeartbeats 4000000 in
set_option maxRecDepth 100000 in
theorem law_ret {cells slots : Nat} (hc : cells ≤ 600000) (hs : slots ≤ 7302250) {p : Program} {l : Launch} {e : Env} {s : State} {m : MethodId} {below : List Frame} {meth : Method} {c : Code} {b : Nat} {xs : Nat → Int32} {H : Heap} {locs : List Loc} {ls : Array Slot} {A : Nat → Prop} (hx : p.tables.exec = Jvm.exec) (hb : c.code = cL_law) (hr : meth.sig.returnType = ret) (hml : c.maxLocals = 4) (hlocks : meth.locks = false) (hA2 : ∀ q, A q → s.heap.size ≤ q) (hS : va_S A s.heap H locs) : W p l e room_1 s m #[Value.ref b] below meth c H locs cells slots (lw_Z below #[Value.ref b] s) (F0 m 1945 ls []) := by
  refine lv_iconst (v := 1) hx hb dL_law_1945 (by decide) ?_
  refine va_forget (fun q hq => hA2 _ (hS.2.2 q hq)) ?_
  refine W.widen (k := 600000) (n := 7302250) hc hs ?_
  exact lw_ret hx hb hr hlocks dL_law_1946
set_option maxHeartbeats 4000000 in
set_option maxRecDepth 100000 in
theorem law_end {p : Program} {l : Launch} {e : Env} {s : State} {m : MethodId} {below : List Frame} {meth : Method} {c : Code} {b : Nat} {xs : Nat → Int32} {H : Heap} {locs : List Loc} {ls : Array Slot} {A : Nat → Prop} (hx : p.tables.exec = Jvm.exec) (hb : c.code = cL_law) (hr : meth.sig.returnType = ret) (hml : c.maxLocals = 4) (hlocks : meth.locks = false) {h x0 : Nat} (hX : va_X b 7 xs s s.heap) (hbl : b < s.heap.size) (hbA : ¬ A b) (hA : ∀ q, s.heap.size ≤ q → A q) (hA2 : ∀ q, A q → s.heap.size ≤ q) (hS : va_S A s.heap H locs) (hl : lv_has ls 4 [(3, .int 0), (2, .ref h), (1, .ref x0), (0, .ref b)]) : W p l e room_1 s m #[Value.ref b] below meth c H locs 116 197732 (lw_Z below #[Value.ref b] s) (F0 m 1939 ls []) := by
  refine lv_iinc (v := 7) (lv' := [(3, .int 7), (2, .ref h), (1, .ref x0), (0, .ref b)]) hx hb dL_law_1939 hl (k := 0) rfl (by decide) (by decide) rfl (fun ls hl => ?_)
  refine lv_goto (tgt := 18) hx hb dL_law_1942 (by decide) ?_
  refine lv_iload_n hx hb dL_law_18 rfl (lv_at hl 0 rfl) ?_
  refine lv_aload_n hx hb dL_law_19 rfl (lv_at hl 3 rfl) ?_
  refine va_slen hx hb hX hbl hbA hS dL_law_20 ?_
  refine lv_bipush (v := 7) hx hb dL_law_21 (by decide) ?_
  refine lv_isub hx hb dL_law_23 ?_
  refine lv_topv (y := 0) (by decide) ?_
  refine lv_icmp_gt (tgt := 1945) hx hb dL_law_24 (by decide) (fun _ => ?_) (fun c => absurd (by decide) c)
  exact law_ret (xs := xs) (by decide) (by decide) hx hb hr hml hlocks hA2 hS
