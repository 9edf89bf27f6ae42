set_option maxHeartbeats 4000000 in
set_option maxRecDepth 100000 in
theorem law_c30 {p : Program} {l : Launch} {e : Env} {s : State} {m : MethodId} {below : List Frame} {meth : Method} {c : Code} {b : Nat} {xs : Nat → Int32} {H : Heap} {locs : List Loc} {ls : Array Slot} {A : Nat → Prop} (hx : p.tables.exec = Jvm.exec) (hb : c.code = cL_law) (hr : meth.sig.returnType = ret) (hml : c.maxLocals = 4) (hlocks : meth.locks = false) {D : va_G} {cI cB cZ cJ cT : ClassId} {h : Nat} {a q : Nat → Nat} {f g1 g2 : Nat → Int32} (hown : s.vm.findClass RL = some m.cls) (hts : ∀ w ∈ TBL, w.before #[Value.ref b] s = true) (hK : KX D cI cB cZ cJ [(cT, .object "NailStain$Text")] s) (hP : va_P D vwCl (xW cI cB cZ cJ cT a f ++ mW cI cB cZ cJ h q g1 g2 i0) H) (hD : va_D A (xW cI cB cZ cJ cT a f ++ mW cI cB cZ cJ h q g1 g2 i0)) (hX : va_X b 7 xs s s.heap) (hbl : b < s.heap.size) (hbA : ¬ A b) (hA : ∀ q, s.heap.size ≤ q → A q) (hA2 : ∀ q, A q → s.heap.size ≤ q) (hS : va_S A s.heap H locs) (hl : lv_has ls 4 [(3, .int 0), (2, .ref h), (1, .ref (a 0)), (0, .ref b)]) : W p l e room_1 s m #[Value.ref b] below meth c H locs 116 197732 (lw_Z below #[Value.ref b] s) (F0 m 1467 ls []) := by
  have hP := hP.sub (ws' := [(a 0, .inr (11, [.ref (a 1), .ref (a 2), .ref (a 3), .ref (a 4), .ref (a 5), .ref (a 6), .ref (a 7), .ref (a 8), .ref (a 9), .ref (a 10), .ref (a 11), .ref (a 12), .int 100])), (a 12, .inr (7, [.ref (a 48), .ref (a 49), .ref (a 50)])), (a 48, .inl (cI, 36, .inl (fun _ => 0))), (a 49, .inl (cZ, 6, .inl (fun _ => 0))), (h, .inr (12, mG q i0)), (q 76, .inl (cZ, 6, .inl (fun _ => 0))), (q 75, .inl (cI, 36, .inl (fun _ => 0)))]) [0, 10, 24, 25, 27, 30, 34] rfl
  have hD := hD.sub (ws' := [(a 0, .inr (11, [.ref (a 1), .ref (a 2), .ref (a 3), .ref (a 4), .ref (a 5), .ref (a 6), .ref (a 7), .ref (a 8), .ref (a 9), .ref (a 10), .ref (a 11), .ref (a 12), .int 100])), (a 12, .inr (7, [.ref (a 48), .ref (a 49), .ref (a 50)])), (a 48, .inl (cI, 36, .inl (fun _ => 0))), (a 49, .inl (cZ, 6, .inl (fun _ => 0))), (h, .inr (12, mG q i0)), (q 76, .inl (cZ, 6, .inl (fun _ => 0))), (q 75, .inl (cI, 36, .inl (fun _ => 0)))]) [0, 10, 24, 25, 27, 30, 34] (by decide) rfl
  refine lv_aload_n hx hb dL_law_1467 rfl (lv_at hl 2 rfl) ?_
  refine lv_aload_n hx hb dL_law_1468 rfl (lv_at hl 3 rfl) ?_
  refine lv_iload_n hx hb dL_law_1469 rfl (lv_at hl 0 rfl) ?_
  refine lv_iconst (v := 1) hx hb dL_law_1470 (by decide) ?_
  refine lv_iadd hx hb dL_law_1471 ?_
  refine lv_topv (y := 1) (by decide) ?_
  refine va_sld hx hb hX hbl hbA hS (by unfold vp_in; decide) dL_law_1472 ?_
  refine lv_topv (y := xs 1) (congrArg xs (by decide)) ?_
  refine lv_aload_n hx hb dL_law_1473 rfl (lv_at hl 3 rfl) ?_
  refine lv_iload_n hx hb dL_law_1474 rfl (lv_at hl 0 rfl) ?_
  refine lv_iconst (v := 2) hx hb dL_law_1475 (by decide) ?_
  refine lv_iadd hx hb dL_law_1476 ?_
  refine lv_topv (y := 2) (by decide) ?_
  refine va_sld hx hb hX hbl hbA hS (by unfold vp_in; decide) dL_law_1477 ?_
  refine lv_topv (y := xs 2) (congrArg xs (by decide)) ?_
  refine lv_aload_n hx hb dL_law_1478 rfl (lv_at hl 3 rfl) ?_
  refine lv_iload_n hx hb dL_law_1479 rfl (lv_at hl 0 rfl) ?_
  refine lv_iconst (v := 3) hx hb dL_law_1480 (by decide) ?_
  refine lv_iadd hx hb dL_law_1481 ?_
  refine lv_topv (y := 3) (by decide) ?_
  refine va_sld hx hb hX hbl hbA hS (by unfold vp_in; decide) dL_law_1482 ?_
  refine lv_topv (y := xs 3) (congrArg xs (by decide)) ?_
  refine eWi (wr := [(h, .inr (12, mG q i0)), (q 76, .inl (cZ, 6, .inl (fun _ => 0))), (q 75, .inl (cI, 36, .inl (fun _ => 0)))]) (va_runV (As := [.int (xs 1), .int (xs 2), .int (xs 3)]) (rest := []) ⟨hx, hb, hml, hown, hts⟩ (c_X11_story l D cI cB cZ cJ [(cT, .object "NailStain$Text")] a (xs 1) (xs 2) (xs 3) H.size) (zV hts k_1189 v_X11_story ⟨Nat.le_of_ble_eq_true rfl, Nat.le_of_ble_eq_true rfl⟩) (pV (pxS hK hP hD [0, 1, 2, 3] (by decide) rfl) hK hP 0 rfl rfl) rfl rfl hl.1 rfl (lv_room (Nat.le_of_ble_eq_true rfl)) dL_law_1483 ⟨Nat.le_of_ble_eq_true rfl, Nat.le_of_ble_eq_true rfl⟩) hP hD hS hA [0, 1, 2, 3] [4, 5, 6] rfl rfl (by decide) (by decide) (fun r_1 u_2 H locs wr_1 hP hD hS => ?_)
  have hP : va_P D vwCl [(h, .inr (12, mG q i0)), (q 76, .inl (cZ, 6, .inl (fun _ => 0))), (q 75, .inl (cI, 36, .inl (fun _ => 0)))] H := hP
  have hD : va_D A [(h, .inr (12, mG q i0)), (q 76, .inl (cZ, 6, .inl (fun _ => 0))), (q 75, .inl (cI, 36, .inl (fun _ => 0)))] := hD
  subst wr_1
  refine lv_aload_n hx hb dL_law_1486 rfl (lv_at hl 1 rfl) ?_
  refine lv_aload_n hx hb dL_law_1487 rfl (lv_at hl 3 rfl) ?_
  refine lv_iload_n hx hb dL_law_1488 rfl (lv_at hl 0 rfl) ?_
  refine lv_iconst (v := 1) hx hb dL_law_1489 (by decide) ?_
  refine lv_iadd hx hb dL_law_1490 ?_
  refine lv_topv (y := 1) (by decide) ?_
  refine va_sld hx hb hX hbl hbA hS (by unfold vp_in; decide) dL_law_1491 ?_
  refine lv_topv (y := xs 1) (congrArg xs (by decide)) ?_
  refine lv_aload_n hx hb dL_law_1492 rfl (lv_at hl 3 rfl) ?_
  refine lv_iload_n hx hb dL_law_1493 rfl (lv_at hl 0 rfl) ?_
  refine lv_iconst (v := 2) hx hb dL_law_1494 (by decide) ?_
  refine lv_iadd hx hb dL_law_1495 ?_
  refine lv_topv (y := 2) (by decide) ?_
  refine va_sld hx hb hX hbl hbA hS (by unfold vp_in; decide) dL_law_1496 ?_
  refine lv_topv (y := xs 2) (congrArg xs (by decide)) ?_
  refine lv_aload_n hx hb dL_law_1497 rfl (lv_at hl 3 rfl) ?_
  refine lv_iload_n hx hb dL_law_1498 rfl (lv_at hl 0 rfl) ?_
  refine lv_iconst (v := 3) hx hb dL_law_1499 (by decide) ?_
  refine lv_iadd hx hb dL_law_1500 ?_
  refine lv_topv (y := 3) (by decide) ?_
  refine va_sld hx hb hX hbl hbA hS (by unfold vp_in; decide) dL_law_1501 ?_
  refine lv_topv (y := xs 3) (congrArg xs (by decide)) ?_
  refine eWi (wr := []) (va_runV (As := [.int (xs 1), .int (xs 2), .int (xs 3)]) (rest := [.int (bi ((0 ≤ (xs 1) ∧ (xs 1) ≤ 5) ∧ (0 ≤ (xs 2) ∧ (xs 2) ≤ 5) ∧ 0 ≤ (xs 3) ∧ (xs 3) ≤ 1000))]) ⟨hx, hb, hml, hown, hts⟩ (c_X12_story l D cI cB cZ cJ [(cT, .object "NailStain$Text")] h q i0 (xs 1) (xs 2) (xs 3) H.size) (zV hts k_2022 v_X12_story ⟨Nat.le_of_ble_eq_true rfl, Nat.le_of_ble_eq_true rfl⟩) (pV (pxS hK hP hD [0, 2, 1] (by decide) rfl) hK hP 0 rfl rfl) rfl rfl hl.1 rfl (lv_room (Nat.le_of_ble_eq_true rfl)) dL_law_1502 ⟨Nat.le_of_ble_eq_true rfl, Nat.le_of_ble_eq_true rfl⟩) hP hD hS hA [0, 2, 1] [] rfl rfl (by decide) (by decide) (fun r_3 u_4 H locs wr_3 hP hD hS => ?_)
  have hP : va_P D vwCl [] H := hP
  have hD : va_D A [] := hD
  subst wr_3
  refine lv_icmp_eq (tgt := 1939) hx hb dL_law_1505 (by decide) (fun _ => ?_) (fun c => absurd rfl c)
  exact law_end hx hb hr hml hlocks hX hbl hbA hA hA2 hS hl

set_option maxHeartbeats 4000000 in
set_option maxRecDepth 100000 in
theorem law_c31 {p : Program} {l : Launch} {e : Env} {s : State} {m : MethodId} {below : List Frame} {meth : Method} {c : Code} {b : Nat} {xs : Nat → Int32} {H : Heap} {locs : List Loc} {ls : Array Slot} {A : Nat → Prop} (hx : p.tables.exec = Jvm.exec) (hb : c.code = cL_law) (hr : meth.sig.returnType = ret) (hml : c.maxLocals = 4) (hlocks : meth.locks = false) {D : va_G} {cI cB cZ cJ cT : ClassId} {h : Nat} {a q : Nat → Nat} {f g1 g2 : Nat → Int32} (hown : s.vm.findClass RL = some m.cls) (hts : ∀ w ∈ TBL, w.before #[Value.ref b] s = true) (hK : KX D cI cB cZ cJ [(cT, .object "NailStain$Text")] s) (hP : va_P D vwCl (xW cI cB cZ cJ cT a f ++ mW cI cB cZ cJ h q g1 g2 i0) H) (hD : va_D A (xW cI cB cZ cJ cT a f ++ mW cI cB cZ cJ h q g1 g2 i0)) (hX : va_X b 7 xs s s.heap) (hbl : b < s.heap.size) (hbA : ¬ A b) (hA : ∀ q, s.heap.size ≤ q → A q) (hA2 : ∀ q, A q → s.heap.size ≤ q) (hS : va_S A s.heap H locs) (hl : lv_has ls 4 [(3, .int 0), (2, .ref h), (1, .ref (a 0)), (0, .ref b)]) : W p l e room_1 s m #[Value.ref b] below meth c H locs 116 197732 (lw_Z below #[Value.ref b] s) (F0 m 1510 ls []) := by
  have hP := hP.sub (ws' := [(a 0, .inr (11, [.ref (a 1), .ref (a 2), .ref (a 3), .ref (a 4), .ref (a 5), .ref (a 6), .ref (a 7), .ref (a 8), .ref (a 9), .ref (a 10), .ref (a 11), .ref (a 12), .int 100])), (a 12, .inr (7, [.ref (a 48), .ref (a 49), .ref (a 50)])), (a 50, .inl (cI, 6, .inl f)), (h, .inr (12, mG q i0)), (q 77, .inl (cI, 6, .inl g1))]) [0, 10, 26, 27, 35] rfl
  have hD := hD.sub (ws' := [(a 0, .inr (11, [.ref (a 1), .ref (a 2), .ref (a 3), .ref (a 4), .ref (a 5), .ref (a 6), .ref (a 7), .ref (a 8), .ref (a 9), .ref (a 10), .ref (a 11), .ref (a 12), .int 100])), (a 12, .inr (7, [.ref (a 48), .ref (a 49), .ref (a 50)])), (a 50, .inl (cI, 6, .inl f)), (h, .inr (12, mG q i0)), (q 77, .inl (cI, 6, .inl g1))]) [0, 10, 26, 27, 35] (by decide) rfl
  refine lv_aload_n hx hb dL_law_1510 rfl (lv_at hl 2 rfl) ?_
  refine lv_aload_n hx hb dL_law_1511 rfl (lv_at hl 3 rfl) ?_
  refine lv_iload_n hx hb dL_law_1512 rfl (lv_at hl 0 rfl) ?_
  refine lv_iconst (v := 1) hx hb dL_law_1513 (by decide) ?_
  refine lv_iadd hx hb dL_law_1514 ?_
  refine lv_topv (y := 1) (by decide) ?_
  refine va_sld hx hb hX hbl hbA hS (by unfold vp_in; decide) dL_law_1515 ?_
  refine lv_topv (y := xs 1) (congrArg xs (by decide)) ?_
  refine lv_aload_n hx hb dL_law_1516 rfl (lv_at hl 3 rfl) ?_
  refine lv_iload_n hx hb dL_law_1517 rfl (lv_at hl 0 rfl) ?_
  refine lv_iconst (v := 2) hx hb dL_law_1518 (by decide) ?_
  refine lv_iadd hx hb dL_law_1519 ?_
  refine lv_topv (y := 2) (by decide) ?_
  refine va_sld hx hb hX hbl hbA hS (by unfold vp_in; decide) dL_law_1520 ?_
  refine lv_topv (y := xs 2) (congrArg xs (by decide)) ?_
  refine eWi (wr := [(h, .inr (12, mG q i0)), (q 77, .inl (cI, 6, .inl g1))]) (va_runV (As := [.int (xs 1), .int (xs 2)]) (rest := []) ⟨hx, hb, hml, hown, hts⟩ (c_X11_sign l D cI cB cZ cJ [(cT, .object "NailStain$Text")] a f (xs 1) (xs 2) H.size) (zV hts k_1197 v_X11_sign ⟨Nat.le_of_ble_eq_true rfl, Nat.le_of_ble_eq_true rfl⟩) (pV (pxS hK hP hD [0, 1, 2] (by decide) rfl) hK hP 0 rfl rfl) rfl rfl hl.1 rfl (lv_room (Nat.le_of_ble_eq_true rfl)) dL_law_1521 ⟨Nat.le_of_ble_eq_true rfl, Nat.le_of_ble_eq_true rfl⟩) hP hD hS hA [0, 1, 2] [3, 4] rfl rfl (by decide) (by decide) (fun r_1 u_2 H locs wr_1 hP hD hS => ?_)
  have hP : va_P D vwCl [(h, .inr (12, mG q i0)), (q 77, .inl (cI, 6, .inl g1))] H := hP
  have hD : va_D A [(h, .inr (12, mG q i0)), (q 77, .inl (cI, 6, .inl g1))] := hD
  subst wr_1
  refine lv_aload_n hx hb dL_law_1524 rfl (lv_at hl 1 rfl) ?_
  refine lv_aload_n hx hb dL_law_1525 rfl (lv_at hl 3 rfl) ?_
  refine lv_iload_n hx hb dL_law_1526 rfl (lv_at hl 0 rfl) ?_
  refine lv_iconst (v := 1) hx hb dL_law_1527 (by decide) ?_
  refine lv_iadd hx hb dL_law_1528 ?_
  refine lv_topv (y := 1) (by decide) ?_
  refine va_sld hx hb hX hbl hbA hS (by unfold vp_in; decide) dL_law_1529 ?_
  refine lv_topv (y := xs 1) (congrArg xs (by decide)) ?_
  refine lv_aload_n hx hb dL_law_1530 rfl (lv_at hl 3 rfl) ?_
  refine lv_iload_n hx hb dL_law_1531 rfl (lv_at hl 0 rfl) ?_
  refine lv_iconst (v := 2) hx hb dL_law_1532 (by decide) ?_
  refine lv_iadd hx hb dL_law_1533 ?_
  refine lv_topv (y := 2) (by decide) ?_
  refine va_sld hx hb hX hbl hbA hS (by unfold vp_in; decide) dL_law_1534 ?_
  refine lv_topv (y := xs 2) (congrArg xs (by decide)) ?_
  refine eWi (wr := []) (va_runV (As := [.int (xs 1), .int (xs 2)]) (rest := [.int (bi ((0 ≤ (xs 1) ∧ (xs 1) ≤ 5) ∧ -1 ≤ (xs 2) ∧ (xs 2) ≤ 1))]) ⟨hx, hb, hml, hown, hts⟩ (c_X12_sign l D cI cB cZ cJ [(cT, .object "NailStain$Text")] h q i0 g1 (xs 1) (xs 2) H.size) (zV hts k_2026 v_X12_sign ⟨Nat.le_of_ble_eq_true rfl, Nat.le_of_ble_eq_true rfl⟩) (pV (pxS hK hP hD [0, 1] (by decide) rfl) hK hP 0 rfl rfl) rfl rfl hl.1 rfl (lv_room (Nat.le_of_ble_eq_true rfl)) dL_law_1535 ⟨Nat.le_of_ble_eq_true rfl, Nat.le_of_ble_eq_true rfl⟩) hP hD hS hA [0, 1] [] rfl rfl (by decide) (by decide) (fun r_3 u_4 H locs wr_3 hP hD hS => ?_)
  have hP : va_P D vwCl [] H := hP
  have hD : va_D A [] := hD
  subst wr_3
  refine lv_icmp_eq (tgt := 1939) hx hb dL_law_1538 (by decide) (fun _ => ?_) (fun c => absurd rfl c)
  exact law_end hx hb hr hml hlocks hX hbl hbA hA hA2 hS hl

set_option maxHeartbeats 4000000 in
set_option maxRecDepth 100000 in
theorem law_c32 {p : Program} {l : Launch} {e : Env} {s : State} {m : MethodId} {below : List Frame} {meth : Method} {c : Code} {b : Nat} {xs : Nat → Int32} {H : Heap} {locs : List Loc} {ls : Array Slot} {A : Nat → Prop} (hx : p.tables.exec = Jvm.exec) (hb : c.code = cL_law) (hr : meth.sig.returnType = ret) (hml : c.maxLocals = 4) (hlocks : meth.locks = false) {D : va_G} {cI cB cZ cJ cT : ClassId} {h : Nat} {a q : Nat → Nat} {f g1 g2 : Nat → Int32} (hown : s.vm.findClass RL = some m.cls) (hts : ∀ w ∈ TBL, w.before #[Value.ref b] s = true) (hK : KX D cI cB cZ cJ [(cT, .object "NailStain$Text")] s) (hP : va_P D vwCl (xW cI cB cZ cJ cT a f ++ mW cI cB cZ cJ h q g1 g2 i0) H) (hD : va_D A (xW cI cB cZ cJ cT a f ++ mW cI cB cZ cJ h q g1 g2 i0)) (hX : va_X b 7 xs s s.heap) (hbl : b < s.heap.size) (hbA : ¬ A b) (hA : ∀ q, s.heap.size ≤ q → A q) (hA2 : ∀ q, A q → s.heap.size ≤ q) (hS : va_S A s.heap H locs) (hl : lv_has ls 4 [(3, .int 0), (2, .ref h), (1, .ref (a 0)), (0, .ref b)]) : W p l e room_1 s m #[Value.ref b] below meth c H locs 116 197732 (lw_Z below #[Value.ref b] s) (F0 m 1543 ls []) := by
  have hP := hP.sub (ws' := [(a 0, .inr (11, [.ref (a 1), .ref (a 2), .ref (a 3), .ref (a 4), .ref (a 5), .ref (a 6), .ref (a 7), .ref (a 8), .ref (a 9), .ref (a 10), .ref (a 11), .ref (a 12), .int 100])), (a 12, .inr (7, [.ref (a 48), .ref (a 49), .ref (a 50)])), (a 49, .inl (cZ, 6, .inl (fun _ => 0))), (h, .inr (12, mG q i0)), (q 76, .inl (cZ, 6, .inl (fun _ => 0)))]) [0, 10, 25, 27, 30] rfl
  have hD := hD.sub (ws' := [(a 0, .inr (11, [.ref (a 1), .ref (a 2), .ref (a 3), .ref (a 4), .ref (a 5), .ref (a 6), .ref (a 7), .ref (a 8), .ref (a 9), .ref (a 10), .ref (a 11), .ref (a 12), .int 100])), (a 12, .inr (7, [.ref (a 48), .ref (a 49), .ref (a 50)])), (a 49, .inl (cZ, 6, .inl (fun _ => 0))), (h, .inr (12, mG q i0)), (q 76, .inl (cZ, 6, .inl (fun _ => 0)))]) [0, 10, 25, 27, 30] (by decide) rfl
  refine lv_aload_n hx hb dL_law_1543 rfl (lv_at hl 2 rfl) ?_
  refine lv_aload_n hx hb dL_law_1544 rfl (lv_at hl 3 rfl) ?_
  refine lv_iload_n hx hb dL_law_1545 rfl (lv_at hl 0 rfl) ?_
  refine lv_iconst (v := 1) hx hb dL_law_1546 (by decide) ?_
  refine lv_iadd hx hb dL_law_1547 ?_
  refine lv_topv (y := 1) (by decide) ?_
  refine va_sld hx hb hX hbl hbA hS (by unfold vp_in; decide) dL_law_1548 ?_
  refine lv_topv (y := xs 1) (congrArg xs (by decide)) ?_
  refine eWl (wr := [(h, .inr (12, mG q i0)), (q 76, .inl (cZ, 6, .inl (fun _ => 0)))]) (va_runV (As := [.int (xs 1)]) (rest := []) ⟨hx, hb, hml, hown, hts⟩ (c_X11_odds l D cI cB cZ cJ [(cT, .object "NailStain$Text")] a (xs 1) H.size) (zV hts k_1201 v_X11_odds ⟨Nat.le_of_ble_eq_true rfl, Nat.le_of_ble_eq_true rfl⟩) (pV (pxS hK hP hD [0, 1, 2] (by decide) rfl) hK hP 0 rfl rfl) rfl rfl hl.1 rfl (lv_room (Nat.le_of_ble_eq_true rfl)) dL_law_1549 ⟨Nat.le_of_ble_eq_true rfl, Nat.le_of_ble_eq_true rfl⟩) hP hD hS hA [0, 1, 2] [3, 4] rfl rfl (by decide) (by decide) (fun r_1 u_2 H locs wr_1 hP hD hS => ?_)
  have hP : va_P D vwCl [(h, .inr (12, mG q i0)), (q 76, .inl (cZ, 6, .inl (fun _ => 0)))] H := hP
  have hD : va_D A [(h, .inr (12, mG q i0)), (q 76, .inl (cZ, 6, .inl (fun _ => 0)))] := hD
  subst wr_1
  refine lv_aload_n hx hb dL_law_1552 rfl (lv_at hl 1 rfl) ?_
  refine lv_aload_n hx hb dL_law_1553 rfl (lv_at hl 3 rfl) ?_
  refine lv_iload_n hx hb dL_law_1554 rfl (lv_at hl 0 rfl) ?_
  refine lv_iconst (v := 1) hx hb dL_law_1555 (by decide) ?_
  refine lv_iadd hx hb dL_law_1556 ?_
  refine lv_topv (y := 1) (by decide) ?_
  refine va_sld hx hb hX hbl hbA hS (by unfold vp_in; decide) dL_law_1557 ?_
  refine lv_topv (y := xs 1) (congrArg xs (by decide)) ?_
  refine eWl (wr := []) (va_runV (As := [.int (xs 1)]) (rest := [.long (if (xs 1) = -1 then 0 else -1)]) ⟨hx, hb, hml, hown, hts⟩ (c_X12_odds l D cI cB cZ cJ [(cT, .object "NailStain$Text")] h q i0 (xs 1) H.size) (zV hts k_2030 v_X12_odds ⟨Nat.le_of_ble_eq_true rfl, Nat.le_of_ble_eq_true rfl⟩) (pV (pxS hK hP hD [0, 1] (by decide) rfl) hK hP 0 rfl rfl) rfl rfl hl.1 rfl (lv_room (Nat.le_of_ble_eq_true rfl)) dL_law_1558 ⟨Nat.le_of_ble_eq_true rfl, Nat.le_of_ble_eq_true rfl⟩) hP hD hS hA [0, 1] [] rfl rfl (by decide) (by decide) (fun r_3 u_4 H locs wr_3 hP hD hS => ?_)
  have hP : va_P D vwCl [] H := hP
  have hD : va_D A [] := hD
  subst wr_3
  refine W.lcmp hx hb dL_law_1561 ?_
  refine lv_if_eq (tgt := 1939) hx hb dL_law_1562 (by decide) (fun _ => ?_) (fun c => absurd ((lg_cmp_eq _ _).mpr rfl) c)
  exact law_end hx hb hr hml hlocks hX hbl hbA hA hA2 hS hl

set_option maxHeartbeats 4000000 in
set_option maxRecDepth 100000 in
theorem law_c33 {p : Program} {l : Launch} {e : Env} {s : State} {m : MethodId} {below : List Frame} {meth : Method} {c : Code} {b : Nat} {xs : Nat → Int32} {H : Heap} {locs : List Loc} {ls : Array Slot} {A : Nat → Prop} (hx : p.tables.exec = Jvm.exec) (hb : c.code = cL_law) (hr : meth.sig.returnType = ret) (hml : c.maxLocals = 4) (hlocks : meth.locks = false) {D : va_G} {cI cB cZ cJ cT : ClassId} {h : Nat} {a q : Nat → Nat} {f g1 g2 : Nat → Int32} (hown : s.vm.findClass RL = some m.cls) (hts : ∀ w ∈ TBL, w.before #[Value.ref b] s = true) (hK : KX D cI cB cZ cJ [(cT, .object "NailStain$Text")] s) (hP : va_P D vwCl (xW cI cB cZ cJ cT a f ++ mW cI cB cZ cJ h q g1 g2 i0) H) (hD : va_D A (xW cI cB cZ cJ cT a f ++ mW cI cB cZ cJ h q g1 g2 i0)) (hX : va_X b 7 xs s s.heap) (hbl : b < s.heap.size) (hbA : ¬ A b) (hA : ∀ q, s.heap.size ≤ q → A q) (hA2 : ∀ q, A q → s.heap.size ≤ q) (hS : va_S A s.heap H locs) (hl : lv_has ls 4 [(3, .int 0), (2, .ref h), (1, .ref (a 0)), (0, .ref b)]) : W p l e room_1 s m #[Value.ref b] below meth c H locs 116 197732 (lw_Z below #[Value.ref b] s) (F0 m 1567 ls []) := by
  have hP := hP.sub (ws' := [(a 0, .inr (11, [.ref (a 1), .ref (a 2), .ref (a 3), .ref (a 4), .ref (a 5), .ref (a 6), .ref (a 7), .ref (a 8), .ref (a 9), .ref (a 10), .ref (a 11), .ref (a 12), .int 100])), (a 12, .inr (7, [.ref (a 48), .ref (a 49), .ref (a 50)])), (a 49, .inl (cZ, 6, .inl (fun _ => 0))), (h, .inr (12, mG q i0)), (q 76, .inl (cZ, 6, .inl (fun _ => 0)))]) [0, 10, 25, 27, 30] rfl
  have hD := hD.sub (ws' := [(a 0, .inr (11, [.ref (a 1), .ref (a 2), .ref (a 3), .ref (a 4), .ref (a 5), .ref (a 6), .ref (a 7), .ref (a 8), .ref (a 9), .ref (a 10), .ref (a 11), .ref (a 12), .int 100])), (a 12, .inr (7, [.ref (a 48), .ref (a 49), .ref (a 50)])), (a 49, .inl (cZ, 6, .inl (fun _ => 0))), (h, .inr (12, mG q i0)), (q 76, .inl (cZ, 6, .inl (fun _ => 0)))]) [0, 10, 25, 27, 30] (by decide) rfl
  refine lv_aload_n hx hb dL_law_1567 rfl (lv_at hl 2 rfl) ?_
  refine lv_aload_n hx hb dL_law_1568 rfl (lv_at hl 3 rfl) ?_
  refine lv_iload_n hx hb dL_law_1569 rfl (lv_at hl 0 rfl) ?_
  refine lv_iconst (v := 1) hx hb dL_law_1570 (by decide) ?_
  refine lv_iadd hx hb dL_law_1571 ?_
  refine lv_topv (y := 1) (by decide) ?_
  refine va_sld hx hb hX hbl hbA hS (by unfold vp_in; decide) dL_law_1572 ?_
  refine lv_topv (y := xs 1) (congrArg xs (by decide)) ?_
  refine eWi (wr := [(h, .inr (12, mG q i0)), (q 76, .inl (cZ, 6, .inl (fun _ => 0)))]) (va_runV (As := [.int (xs 1)]) (rest := []) ⟨hx, hb, hml, hown, hts⟩ (c_X11_next l D cI cB cZ cJ [(cT, .object "NailStain$Text")] a (xs 1) H.size) (zV hts k_1214 v_X11_next ⟨Nat.le_of_ble_eq_true rfl, Nat.le_of_ble_eq_true rfl⟩) (pV (pxS hK hP hD [0, 1, 2] (by decide) rfl) hK hP 0 rfl rfl) rfl rfl hl.1 rfl (lv_room (Nat.le_of_ble_eq_true rfl)) dL_law_1573 ⟨Nat.le_of_ble_eq_true rfl, Nat.le_of_ble_eq_true rfl⟩) hP hD hS hA [0, 1, 2] [3, 4] rfl rfl (by decide) (by decide) (fun r_1 u_2 H locs wr_1 hP hD hS => ?_)
  have hP : va_P D vwCl [(h, .inr (12, mG q i0)), (q 76, .inl (cZ, 6, .inl (fun _ => 0)))] H := hP
  have hD : va_D A [(h, .inr (12, mG q i0)), (q 76, .inl (cZ, 6, .inl (fun _ => 0)))] := hD
  subst wr_1
  refine lv_aload_n hx hb dL_law_1576 rfl (lv_at hl 1 rfl) ?_
  refine lv_aload_n hx hb dL_law_1577 rfl (lv_at hl 3 rfl) ?_
  refine lv_iload_n hx hb dL_law_1578 rfl (lv_at hl 0 rfl) ?_
  refine lv_iconst (v := 1) hx hb dL_law_1579 (by decide) ?_
  refine lv_iadd hx hb dL_law_1580 ?_
  refine lv_topv (y := 1) (by decide) ?_
  refine va_sld hx hb hX hbl hbA hS (by unfold vp_in; decide) dL_law_1581 ?_
  refine lv_topv (y := xs 1) (congrArg xs (by decide)) ?_
  refine eWi (wr := []) (va_runV (As := [.int (xs 1)]) (rest := [.int (-1)]) ⟨hx, hb, hml, hown, hts⟩ (c_X12_next l D cI cB cZ cJ [(cT, .object "NailStain$Text")] h q i0 (xs 1) H.size) (zV hts k_2038 v_X12_next ⟨Nat.le_of_ble_eq_true rfl, Nat.le_of_ble_eq_true rfl⟩) (pV (pxS hK hP hD [0, 1] (by decide) rfl) hK hP 0 rfl rfl) rfl rfl hl.1 rfl (lv_room (Nat.le_of_ble_eq_true rfl)) dL_law_1582 ⟨Nat.le_of_ble_eq_true rfl, Nat.le_of_ble_eq_true rfl⟩) hP hD hS hA [0, 1] [] rfl rfl (by decide) (by decide) (fun r_3 u_4 H locs wr_3 hP hD hS => ?_)
  have hP : va_P D vwCl [] H := hP
  have hD : va_D A [] := hD
  subst wr_3
  refine lv_icmp_eq (tgt := 1939) hx hb dL_law_1585 (by decide) (fun _ => ?_) (fun c => absurd rfl c)
  exact law_end hx hb hr hml hlocks hX hbl hbA hA hA2 hS hl

set_option maxHeartbeats 4000000 in
set_option maxRecDepth 100000 in
theorem law_c34 {p : Program} {l : Launch} {e : Env} {s : State} {m : MethodId} {below : List Frame} {meth : Method} {c : Code} {b : Nat} {xs : Nat → Int32} {H : Heap} {locs : List Loc} {ls : Array Slot} {A : Nat → Prop} (hx : p.tables.exec = Jvm.exec) (hb : c.code = cL_law) (hr : meth.sig.returnType = ret) (hml : c.maxLocals = 4) (hlocks : meth.locks = false) {D : va_G} {cI cB cZ cJ cT : ClassId} {h : Nat} {a q : Nat → Nat} {f g1 g2 : Nat → Int32} (hown : s.vm.findClass RL = some m.cls) (hts : ∀ w ∈ TBL, w.before #[Value.ref b] s = true) (hK : KX D cI cB cZ cJ [(cT, .object "NailStain$Text")] s) (hP : va_P D vwCl (xW cI cB cZ cJ cT a f ++ mW cI cB cZ cJ h q g1 g2 i0) H) (hD : va_D A (xW cI cB cZ cJ cT a f ++ mW cI cB cZ cJ h q g1 g2 i0)) (hX : va_X b 7 xs s s.heap) (hbl : b < s.heap.size) (hbA : ¬ A b) (hA : ∀ q, s.heap.size ≤ q → A q) (hA2 : ∀ q, A q → s.heap.size ≤ q) (hS : va_S A s.heap H locs) (hl : lv_has ls 4 [(3, .int 0), (2, .ref h), (1, .ref (a 0)), (0, .ref b)]) : W p l e room_1 s m #[Value.ref b] below meth c H locs 116 197732 (lw_Z below #[Value.ref b] s) (F0 m 1590 ls []) := by
  have hP := hP.sub (ws' := [(a 0, .inr (11, [.ref (a 1), .ref (a 2), .ref (a 3), .ref (a 4), .ref (a 5), .ref (a 6), .ref (a 7), .ref (a 8), .ref (a 9), .ref (a 10), .ref (a 11), .ref (a 12), .int 100])), (a 5, .inr (4, [.ref (a 18), .ref (a 19), .ref (a 20), .ref (a 21), .ref (a 22), .ref (a 23), .ref (a 24), .int 0, .int 0, .int 0, .int 1])), (h, .inr (12, mG q i0))]) [0, 4, 27] rfl
  have hD := hD.sub (ws' := [(a 0, .inr (11, [.ref (a 1), .ref (a 2), .ref (a 3), .ref (a 4), .ref (a 5), .ref (a 6), .ref (a 7), .ref (a 8), .ref (a 9), .ref (a 10), .ref (a 11), .ref (a 12), .int 100])), (a 5, .inr (4, [.ref (a 18), .ref (a 19), .ref (a 20), .ref (a 21), .ref (a 22), .ref (a 23), .ref (a 24), .int 0, .int 0, .int 0, .int 1])), (h, .inr (12, mG q i0))]) [0, 4, 27] (by decide) rfl
  refine lv_aload_n hx hb dL_law_1590 rfl (lv_at hl 2 rfl) ?_
  refine lv_aload_n hx hb dL_law_1591 rfl (lv_at hl 3 rfl) ?_
  refine lv_iload_n hx hb dL_law_1592 rfl (lv_at hl 0 rfl) ?_
  refine lv_iconst (v := 1) hx hb dL_law_1593 (by decide) ?_
  refine lv_iadd hx hb dL_law_1594 ?_
  refine lv_topv (y := 1) (by decide) ?_
  refine va_sld hx hb hX hbl hbA hS (by unfold vp_in; decide) dL_law_1595 ?_
  refine lv_topv (y := xs 1) (congrArg xs (by decide)) ?_
  refine lv_aload_n hx hb dL_law_1596 rfl (lv_at hl 3 rfl) ?_
  refine lv_iload_n hx hb dL_law_1597 rfl (lv_at hl 0 rfl) ?_
  refine lv_iconst (v := 2) hx hb dL_law_1598 (by decide) ?_
  refine lv_iadd hx hb dL_law_1599 ?_
  refine lv_topv (y := 2) (by decide) ?_
  refine va_sld hx hb hX hbl hbA hS (by unfold vp_in; decide) dL_law_1600 ?_
  refine lv_topv (y := xs 2) (congrArg xs (by decide)) ?_
  refine lv_aload_n hx hb dL_law_1601 rfl (lv_at hl 3 rfl) ?_
  refine lv_iload_n hx hb dL_law_1602 rfl (lv_at hl 0 rfl) ?_
  refine lv_iconst (v := 3) hx hb dL_law_1603 (by decide) ?_
  refine lv_iadd hx hb dL_law_1604 ?_
  refine lv_topv (y := 3) (by decide) ?_
  refine va_sld hx hb hX hbl hbA hS (by unfold vp_in; decide) dL_law_1605 ?_
  refine lv_topv (y := xs 3) (congrArg xs (by decide)) ?_
  refine lv_aload_n hx hb dL_law_1606 rfl (lv_at hl 3 rfl) ?_
  refine lv_iload_n hx hb dL_law_1607 rfl (lv_at hl 0 rfl) ?_
  refine lv_iconst (v := 4) hx hb dL_law_1608 (by decide) ?_
  refine lv_iadd hx hb dL_law_1609 ?_
  refine lv_topv (y := 4) (by decide) ?_
  refine va_sld hx hb hX hbl hbA hS (by unfold vp_in; decide) dL_law_1610 ?_
  refine lv_topv (y := xs 4) (congrArg xs (by decide)) ?_
  refine eWl (wr := [(h, .inr (12, mG q i0))]) (va_runV (As := [.int (xs 1), .int (xs 2), .int (xs 3), .int (xs 4)]) (rest := []) ⟨hx, hb, hml, hown, hts⟩ (c_X11_area l D cI cB cZ cJ [(cT, .object "NailStain$Text")] a (xs 1) (xs 2) (xs 3) (xs 4) H.size) (zV hts k_1236 v_X11_area ⟨Nat.le_of_ble_eq_true rfl, Nat.le_of_ble_eq_true rfl⟩) (pV (pxS hK hP hD [0, 1] (by decide) rfl) hK hP 0 rfl rfl) rfl rfl hl.1 rfl (lv_room (Nat.le_of_ble_eq_true rfl)) dL_law_1611 ⟨Nat.le_of_ble_eq_true rfl, Nat.le_of_ble_eq_true rfl⟩) hP hD hS hA [0, 1] [2] rfl rfl (by decide) (by decide) (fun r_1 u_2 H locs wr_1 hP hD hS => ?_)
  have hP : va_P D vwCl [(h, .inr (12, mG q i0))] H := hP
  have hD : va_D A [(h, .inr (12, mG q i0))] := hD
  subst wr_1
  refine lv_aload_n hx hb dL_law_1614 rfl (lv_at hl 1 rfl) ?_
  refine lv_aload_n hx hb dL_law_1615 rfl (lv_at hl 3 rfl) ?_
  refine lv_iload_n hx hb dL_law_1616 rfl (lv_at hl 0 rfl) ?_
  refine lv_iconst (v := 1) hx hb dL_law_1617 (by decide) ?_
  refine lv_iadd hx hb dL_law_1618 ?_
  refine lv_topv (y := 1) (by decide) ?_
  refine va_sld hx hb hX hbl hbA hS (by unfold vp_in; decide) dL_law_1619 ?_
  refine lv_topv (y := xs 1) (congrArg xs (by decide)) ?_
  refine lv_aload_n hx hb dL_law_1620 rfl (lv_at hl 3 rfl) ?_
  refine lv_iload_n hx hb dL_law_1621 rfl (lv_at hl 0 rfl) ?_
  refine lv_iconst (v := 2) hx hb dL_law_1622 (by decide) ?_
  refine lv_iadd hx hb dL_law_1623 ?_
  refine lv_topv (y := 2) (by decide) ?_
  refine va_sld hx hb hX hbl hbA hS (by unfold vp_in; decide) dL_law_1624 ?_
  refine lv_topv (y := xs 2) (congrArg xs (by decide)) ?_
  refine lv_aload_n hx hb dL_law_1625 rfl (lv_at hl 3 rfl) ?_
  refine lv_iload_n hx hb dL_law_1626 rfl (lv_at hl 0 rfl) ?_
  refine lv_iconst (v := 3) hx hb dL_law_1627 (by decide) ?_
  refine lv_iadd hx hb dL_law_1628 ?_
  refine lv_topv (y := 3) (by decide) ?_
  refine va_sld hx hb hX hbl hbA hS (by unfold vp_in; decide) dL_law_1629 ?_
  refine lv_topv (y := xs 3) (congrArg xs (by decide)) ?_
  refine lv_aload_n hx hb dL_law_1630 rfl (lv_at hl 3 rfl) ?_
  refine lv_iload_n hx hb dL_law_1631 rfl (lv_at hl 0 rfl) ?_
  refine lv_iconst (v := 4) hx hb dL_law_1632 (by decide) ?_
  refine lv_iadd hx hb dL_law_1633 ?_
  refine lv_topv (y := 4) (by decide) ?_
  refine va_sld hx hb hX hbl hbA hS (by unfold vp_in; decide) dL_law_1634 ?_
  refine lv_topv (y := xs 4) (congrArg xs (by decide)) ?_
  refine eWl (wr := []) (va_runV (As := [.int (xs 1), .int (xs 2), .int (xs 3), .int (xs 4)]) (rest := [.long (-1)]) ⟨hx, hb, hml, hown, hts⟩ (c_X12_area l D cI cB cZ cJ [(cT, .object "NailStain$Text")] h q i0 (xs 1) (xs 2) (xs 3) (xs 4) rfl H.size) (zV hts k_2050 v_X12_area ⟨Nat.le_of_ble_eq_true rfl, Nat.le_of_ble_eq_true rfl⟩) (pV (pxS hK hP hD [0] (by decide) rfl) hK hP 0 rfl rfl) rfl rfl hl.1 rfl (lv_room (Nat.le_of_ble_eq_true rfl)) dL_law_1635 ⟨Nat.le_of_ble_eq_true rfl, Nat.le_of_ble_eq_true rfl⟩) hP hD hS hA [0] [] rfl rfl (by decide) (by decide) (fun r_3 u_4 H locs wr_3 hP hD hS => ?_)
  have hP : va_P D vwCl [] H := hP
  have hD : va_D A [] := hD
  subst wr_3
  refine W.lcmp hx hb dL_law_1638 ?_
  refine lv_if_eq (tgt := 1939) hx hb dL_law_1639 (by decide) (fun _ => ?_) (fun c => absurd ((lg_cmp_eq _ _).mpr rfl) c)
  exact law_end hx hb hr hml hlocks hX hbl hbA hA hA2 hS hl

set_option maxHeartbeats 4000000 in
set_option maxRecDepth 100000 in
theorem law_c35 {p : Program} {l : Launch} {e : Env} {s : State} {m : MethodId} {below : List Frame} {meth : Method} {c : Code} {b : Nat} {xs : Nat → Int32} {H : Heap} {locs : List Loc} {ls : Array Slot} {A : Nat → Prop} (hx : p.tables.exec = Jvm.exec) (hb : c.code = cL_law) (hr : meth.sig.returnType = ret) (hml : c.maxLocals = 4) (hlocks : meth.locks = false) {D : va_G} {cI cB cZ cJ cT : ClassId} {h : Nat} {a q : Nat → Nat} {f g1 g2 : Nat → Int32} (hown : s.vm.findClass RL = some m.cls) (hts : ∀ w ∈ TBL, w.before #[Value.ref b] s = true) (hK : KX D cI cB cZ cJ [(cT, .object "NailStain$Text")] s) (hP : va_P D vwCl (xW cI cB cZ cJ cT a f ++ mW cI cB cZ cJ h q g1 g2 i0) H) (hD : va_D A (xW cI cB cZ cJ cT a f ++ mW cI cB cZ cJ h q g1 g2 i0)) (hX : va_X b 7 xs s s.heap) (hbl : b < s.heap.size) (hbA : ¬ A b) (hA : ∀ q, s.heap.size ≤ q → A q) (hA2 : ∀ q, A q → s.heap.size ≤ q) (hS : va_S A s.heap H locs) (hl : lv_has ls 4 [(3, .int 0), (2, .ref h), (1, .ref (a 0)), (0, .ref b)]) : W p l e room_1 s m #[Value.ref b] below meth c H locs 116 197732 (lw_Z below #[Value.ref b] s) (F0 m 1644 ls []) := by
  have hP := hP.sub (ws' := [(a 0, .inr (11, [.ref (a 1), .ref (a 2), .ref (a 3), .ref (a 4), .ref (a 5), .ref (a 6), .ref (a 7), .ref (a 8), .ref (a 9), .ref (a 10), .ref (a 11), .ref (a 12), .int 100])), (a 5, .inr (4, [.ref (a 18), .ref (a 19), .ref (a 20), .ref (a 21), .ref (a 22), .ref (a 23), .ref (a 24), .int 0, .int 0, .int 0, .int 1])), (h, .inr (12, mG q i0))]) [0, 4, 27] rfl
  have hD := hD.sub (ws' := [(a 0, .inr (11, [.ref (a 1), .ref (a 2), .ref (a 3), .ref (a 4), .ref (a 5), .ref (a 6), .ref (a 7), .ref (a 8), .ref (a 9), .ref (a 10), .ref (a 11), .ref (a 12), .int 100])), (a 5, .inr (4, [.ref (a 18), .ref (a 19), .ref (a 20), .ref (a 21), .ref (a 22), .ref (a 23), .ref (a 24), .int 0, .int 0, .int 0, .int 1])), (h, .inr (12, mG q i0))]) [0, 4, 27] (by decide) rfl
  refine lv_aload_n hx hb dL_law_1644 rfl (lv_at hl 2 rfl) ?_
  refine lv_aload_n hx hb dL_law_1645 rfl (lv_at hl 3 rfl) ?_
  refine lv_iload_n hx hb dL_law_1646 rfl (lv_at hl 0 rfl) ?_
  refine lv_iconst (v := 1) hx hb dL_law_1647 (by decide) ?_
  refine lv_iadd hx hb dL_law_1648 ?_
  refine lv_topv (y := 1) (by decide) ?_
  refine va_sld hx hb hX hbl hbA hS (by unfold vp_in; decide) dL_law_1649 ?_
  refine lv_topv (y := xs 1) (congrArg xs (by decide)) ?_
  refine lv_aload_n hx hb dL_law_1650 rfl (lv_at hl 3 rfl) ?_
  refine lv_iload_n hx hb dL_law_1651 rfl (lv_at hl 0 rfl) ?_
  refine lv_iconst (v := 2) hx hb dL_law_1652 (by decide) ?_
  refine lv_iadd hx hb dL_law_1653 ?_
  refine lv_topv (y := 2) (by decide) ?_
  refine va_sld hx hb hX hbl hbA hS (by unfold vp_in; decide) dL_law_1654 ?_
  refine lv_topv (y := xs 2) (congrArg xs (by decide)) ?_
  refine lv_aload_n hx hb dL_law_1655 rfl (lv_at hl 3 rfl) ?_
  refine lv_iload_n hx hb dL_law_1656 rfl (lv_at hl 0 rfl) ?_
  refine lv_iconst (v := 3) hx hb dL_law_1657 (by decide) ?_
  refine lv_iadd hx hb dL_law_1658 ?_
  refine lv_topv (y := 3) (by decide) ?_
  refine va_sld hx hb hX hbl hbA hS (by unfold vp_in; decide) dL_law_1659 ?_
  refine lv_topv (y := xs 3) (congrArg xs (by decide)) ?_
  refine eWl (wr := [(h, .inr (12, mG q i0))]) (va_runV (As := [.int (xs 1), .int (xs 2), .int (xs 3)]) (rest := []) ⟨hx, hb, hml, hown, hts⟩ (c_X11_volume l D cI cB cZ cJ [(cT, .object "NailStain$Text")] a (xs 1) (xs 2) (xs 3) H.size) (zV hts k_1256 v_X11_volume ⟨Nat.le_of_ble_eq_true rfl, Nat.le_of_ble_eq_true rfl⟩) (pV (pxS hK hP hD [0, 1] (by decide) rfl) hK hP 0 rfl rfl) rfl rfl hl.1 rfl (lv_room (Nat.le_of_ble_eq_true rfl)) dL_law_1660 ⟨Nat.le_of_ble_eq_true rfl, Nat.le_of_ble_eq_true rfl⟩) hP hD hS hA [0, 1] [2] rfl rfl (by decide) (by decide) (fun r_1 u_2 H locs wr_1 hP hD hS => ?_)
  have hP : va_P D vwCl [(h, .inr (12, mG q i0))] H := hP
  have hD : va_D A [(h, .inr (12, mG q i0))] := hD
  subst wr_1
  refine lv_aload_n hx hb dL_law_1663 rfl (lv_at hl 1 rfl) ?_
  refine lv_aload_n hx hb dL_law_1664 rfl (lv_at hl 3 rfl) ?_
  refine lv_iload_n hx hb dL_law_1665 rfl (lv_at hl 0 rfl) ?_
  refine lv_iconst (v := 1) hx hb dL_law_1666 (by decide) ?_
  refine lv_iadd hx hb dL_law_1667 ?_
  refine lv_topv (y := 1) (by decide) ?_
  refine va_sld hx hb hX hbl hbA hS (by unfold vp_in; decide) dL_law_1668 ?_
  refine lv_topv (y := xs 1) (congrArg xs (by decide)) ?_
  refine lv_aload_n hx hb dL_law_1669 rfl (lv_at hl 3 rfl) ?_
  refine lv_iload_n hx hb dL_law_1670 rfl (lv_at hl 0 rfl) ?_
  refine lv_iconst (v := 2) hx hb dL_law_1671 (by decide) ?_
  refine lv_iadd hx hb dL_law_1672 ?_
  refine lv_topv (y := 2) (by decide) ?_
  refine va_sld hx hb hX hbl hbA hS (by unfold vp_in; decide) dL_law_1673 ?_
  refine lv_topv (y := xs 2) (congrArg xs (by decide)) ?_
  refine lv_aload_n hx hb dL_law_1674 rfl (lv_at hl 3 rfl) ?_
  refine lv_iload_n hx hb dL_law_1675 rfl (lv_at hl 0 rfl) ?_
  refine lv_iconst (v := 3) hx hb dL_law_1676 (by decide) ?_
  refine lv_iadd hx hb dL_law_1677 ?_
  refine lv_topv (y := 3) (by decide) ?_
  refine va_sld hx hb hX hbl hbA hS (by unfold vp_in; decide) dL_law_1678 ?_
  refine lv_topv (y := xs 3) (congrArg xs (by decide)) ?_
  refine eWl (wr := []) (va_runV (As := [.int (xs 1), .int (xs 2), .int (xs 3)]) (rest := [.long (-1)]) ⟨hx, hb, hml, hown, hts⟩ (c_X12_volume l D cI cB cZ cJ [(cT, .object "NailStain$Text")] h q i0 (xs 1) (xs 2) (xs 3) rfl H.size) (zV hts k_2065 v_X12_volume ⟨Nat.le_of_ble_eq_true rfl, Nat.le_of_ble_eq_true rfl⟩) (pV (pxS hK hP hD [0] (by decide) rfl) hK hP 0 rfl rfl) rfl rfl hl.1 rfl (lv_room (Nat.le_of_ble_eq_true rfl)) dL_law_1679 ⟨Nat.le_of_ble_eq_true rfl, Nat.le_of_ble_eq_true rfl⟩) hP hD hS hA [0] [] rfl rfl (by decide) (by decide) (fun r_3 u_4 H locs wr_3 hP hD hS => ?_)
  have hP : va_P D vwCl [] H := hP
  have hD : va_D A [] := hD
  subst wr_3
  refine W.lcmp hx hb dL_law_1682 ?_
  refine lv_if_eq (tgt := 1939) hx hb dL_law_1683 (by decide) (fun _ => ?_) (fun c => absurd ((lg_cmp_eq _ _).mpr rfl) c)
  exact law_end hx hb hr hml hlocks hX hbl hbA hA hA2 hS hl

set_option maxHeartbeats 4000000 in
set_option maxRecDepth 100000 in
theorem law_c36 {p : Program} {l : Launch} {e : Env} {s : State} {m : MethodId} {below : List Frame} {meth : Method} {c : Code} {b : Nat} {xs : Nat → Int32} {H : Heap} {locs : List Loc} {ls : Array Slot} {A : Nat → Prop} (hx : p.tables.exec = Jvm.exec) (hb : c.code = cL_law) (hr : meth.sig.returnType = ret) (hml : c.maxLocals = 4) (hlocks : meth.locks = false) {D : va_G} {cI cB cZ cJ cT : ClassId} {h : Nat} {a q : Nat → Nat} {f g1 g2 : Nat → Int32} (hown : s.vm.findClass RL = some m.cls) (hts : ∀ w ∈ TBL, w.before #[Value.ref b] s = true) (hK : KX D cI cB cZ cJ [(cT, .object "NailStain$Text")] s) (hP : va_P D vwCl (xW cI cB cZ cJ cT a f ++ mW cI cB cZ cJ h q g1 g2 i0) H) (hD : va_D A (xW cI cB cZ cJ cT a f ++ mW cI cB cZ cJ h q g1 g2 i0)) (hX : va_X b 7 xs s s.heap) (hbl : b < s.heap.size) (hbA : ¬ A b) (hA : ∀ q, s.heap.size ≤ q → A q) (hA2 : ∀ q, A q → s.heap.size ≤ q) (hS : va_S A s.heap H locs) (hl : lv_has ls 4 [(3, .int 0), (2, .ref h), (1, .ref (a 0)), (0, .ref b)]) : W p l e room_1 s m #[Value.ref b] below meth c H locs 116 197732 (lw_Z below #[Value.ref b] s) (F0 m 1688 ls []) := by
  have hP := hP.sub (ws' := [(a 0, .inr (11, [.ref (a 1), .ref (a 2), .ref (a 3), .ref (a 4), .ref (a 5), .ref (a 6), .ref (a 7), .ref (a 8), .ref (a 9), .ref (a 10), .ref (a 11), .ref (a 12), .int 100])), (a 5, .inr (4, [.ref (a 18), .ref (a 19), .ref (a 20), .ref (a 21), .ref (a 22), .ref (a 23), .ref (a 24), .int 0, .int 0, .int 0, .int 1])), (a 8, .inr (1, [.ref (a 5), .ref (a 7), .ref (a 41), .ref (a 42), .ref (a 43), .ref (a 44), .int 0])), (h, .inr (12, mG q i0))]) [0, 4, 7, 27] rfl
  have hD := hD.sub (ws' := [(a 0, .inr (11, [.ref (a 1), .ref (a 2), .ref (a 3), .ref (a 4), .ref (a 5), .ref (a 6), .ref (a 7), .ref (a 8), .ref (a 9), .ref (a 10), .ref (a 11), .ref (a 12), .int 100])), (a 5, .inr (4, [.ref (a 18), .ref (a 19), .ref (a 20), .ref (a 21), .ref (a 22), .ref (a 23), .ref (a 24), .int 0, .int 0, .int 0, .int 1])), (a 8, .inr (1, [.ref (a 5), .ref (a 7), .ref (a 41), .ref (a 42), .ref (a 43), .ref (a 44), .int 0])), (h, .inr (12, mG q i0))]) [0, 4, 7, 27] (by decide) rfl
  refine lv_aload_n hx hb dL_law_1688 rfl (lv_at hl 2 rfl) ?_
  refine lv_aload_n hx hb dL_law_1689 rfl (lv_at hl 3 rfl) ?_
  refine lv_iload_n hx hb dL_law_1690 rfl (lv_at hl 0 rfl) ?_
  refine lv_iconst (v := 1) hx hb dL_law_1691 (by decide) ?_
  refine lv_iadd hx hb dL_law_1692 ?_
  refine lv_topv (y := 1) (by decide) ?_
  refine va_sld hx hb hX hbl hbA hS (by unfold vp_in; decide) dL_law_1693 ?_
  refine lv_topv (y := xs 1) (congrArg xs (by decide)) ?_
  refine lv_aload_n hx hb dL_law_1694 rfl (lv_at hl 3 rfl) ?_
  refine lv_iload_n hx hb dL_law_1695 rfl (lv_at hl 0 rfl) ?_
  refine lv_iconst (v := 2) hx hb dL_law_1696 (by decide) ?_
  refine lv_iadd hx hb dL_law_1697 ?_
  refine lv_topv (y := 2) (by decide) ?_
  refine va_sld hx hb hX hbl hbA hS (by unfold vp_in; decide) dL_law_1698 ?_
  refine lv_topv (y := xs 2) (congrArg xs (by decide)) ?_
  refine lv_aload_n hx hb dL_law_1699 rfl (lv_at hl 3 rfl) ?_
  refine lv_iload_n hx hb dL_law_1700 rfl (lv_at hl 0 rfl) ?_
  refine lv_iconst (v := 3) hx hb dL_law_1701 (by decide) ?_
  refine lv_iadd hx hb dL_law_1702 ?_
  refine lv_topv (y := 3) (by decide) ?_
  refine va_sld hx hb hX hbl hbA hS (by unfold vp_in; decide) dL_law_1703 ?_
  refine lv_topv (y := xs 3) (congrArg xs (by decide)) ?_
  refine eWi (wr := [(h, .inr (12, mG q i0))]) (va_runV (As := [.int (xs 1), .int (xs 2), .int (xs 3)]) (rest := []) ⟨hx, hb, hml, hown, hts⟩ (c_X11_depth l D cI cB cZ cJ [(cT, .object "NailStain$Text")] a (xs 1) (xs 2) (xs 3) H.size) (zV hts k_1266 v_X11_depth ⟨Nat.le_of_ble_eq_true rfl, Nat.le_of_ble_eq_true rfl⟩) (pV (pxS hK hP hD [0, 1, 2] (by decide) rfl) hK hP 0 rfl rfl) rfl rfl hl.1 rfl (lv_room (Nat.le_of_ble_eq_true rfl)) dL_law_1704 ⟨Nat.le_of_ble_eq_true rfl, Nat.le_of_ble_eq_true rfl⟩) hP hD hS hA [0, 1, 2] [3] rfl rfl (by decide) (by decide) (fun r_1 u_2 H locs wr_1 hP hD hS => ?_)
  have hP : va_P D vwCl [(h, .inr (12, mG q i0))] H := hP
  have hD : va_D A [(h, .inr (12, mG q i0))] := hD
  subst wr_1
  refine lv_aload_n hx hb dL_law_1707 rfl (lv_at hl 1 rfl) ?_
  refine lv_aload_n hx hb dL_law_1708 rfl (lv_at hl 3 rfl) ?_
  refine lv_iload_n hx hb dL_law_1709 rfl (lv_at hl 0 rfl) ?_
  refine lv_iconst (v := 1) hx hb dL_law_1710 (by decide) ?_
  refine lv_iadd hx hb dL_law_1711 ?_
  refine lv_topv (y := 1) (by decide) ?_
  refine va_sld hx hb hX hbl hbA hS (by unfold vp_in; decide) dL_law_1712 ?_
  refine lv_topv (y := xs 1) (congrArg xs (by decide)) ?_
  refine lv_aload_n hx hb dL_law_1713 rfl (lv_at hl 3 rfl) ?_
  refine lv_iload_n hx hb dL_law_1714 rfl (lv_at hl 0 rfl) ?_
  refine lv_iconst (v := 2) hx hb dL_law_1715 (by decide) ?_
  refine lv_iadd hx hb dL_law_1716 ?_
  refine lv_topv (y := 2) (by decide) ?_
  refine va_sld hx hb hX hbl hbA hS (by unfold vp_in; decide) dL_law_1717 ?_
  refine lv_topv (y := xs 2) (congrArg xs (by decide)) ?_
  refine lv_aload_n hx hb dL_law_1718 rfl (lv_at hl 3 rfl) ?_
  refine lv_iload_n hx hb dL_law_1719 rfl (lv_at hl 0 rfl) ?_
  refine lv_iconst (v := 3) hx hb dL_law_1720 (by decide) ?_
  refine lv_iadd hx hb dL_law_1721 ?_
  refine lv_topv (y := 3) (by decide) ?_
  refine va_sld hx hb hX hbl hbA hS (by unfold vp_in; decide) dL_law_1722 ?_
  refine lv_topv (y := xs 3) (congrArg xs (by decide)) ?_
  refine eWi (wr := []) (va_runV (As := [.int (xs 1), .int (xs 2), .int (xs 3)]) (rest := [.int (-1)]) ⟨hx, hb, hml, hown, hts⟩ (c_X12_depth l D cI cB cZ cJ [(cT, .object "NailStain$Text")] h q i0 (xs 1) (xs 2) (xs 3) rfl H.size) (zV hts k_2073 v_X12_depth ⟨Nat.le_of_ble_eq_true rfl, Nat.le_of_ble_eq_true rfl⟩) (pV (pxS hK hP hD [0] (by decide) rfl) hK hP 0 rfl rfl) rfl rfl hl.1 rfl (lv_room (Nat.le_of_ble_eq_true rfl)) dL_law_1723 ⟨Nat.le_of_ble_eq_true rfl, Nat.le_of_ble_eq_true rfl⟩) hP hD hS hA [0] [] rfl rfl (by decide) (by decide) (fun r_3 u_4 H locs wr_3 hP hD hS => ?_)
  have hP : va_P D vwCl [] H := hP
  have hD : va_D A [] := hD
  subst wr_3
  refine lv_icmp_eq (tgt := 1939) hx hb dL_law_1726 (by decide) (fun _ => ?_) (fun c => absurd rfl c)
  exact law_end hx hb hr hml hlocks hX hbl hbA hA hA2 hS hl

set_option maxHeartbeats 4000000 in
set_option maxRecDepth 100000 in
theorem law_c37 {p : Program} {l : Launch} {e : Env} {s : State} {m : MethodId} {below : List Frame} {meth : Method} {c : Code} {b : Nat} {xs : Nat → Int32} {H : Heap} {locs : List Loc} {ls : Array Slot} {A : Nat → Prop} (hx : p.tables.exec = Jvm.exec) (hb : c.code = cL_law) (hr : meth.sig.returnType = ret) (hml : c.maxLocals = 4) (hlocks : meth.locks = false) {D : va_G} {cI cB cZ cJ cT : ClassId} {h : Nat} {a q : Nat → Nat} {f g1 g2 : Nat → Int32} (hown : s.vm.findClass RL = some m.cls) (hts : ∀ w ∈ TBL, w.before #[Value.ref b] s = true) (hK : KX D cI cB cZ cJ [(cT, .object "NailStain$Text")] s) (hP : va_P D vwCl (xW cI cB cZ cJ cT a f ++ mW cI cB cZ cJ h q g1 g2 i0) H) (hD : va_D A (xW cI cB cZ cJ cT a f ++ mW cI cB cZ cJ h q g1 g2 i0)) (hX : va_X b 7 xs s s.heap) (hbl : b < s.heap.size) (hbA : ¬ A b) (hA : ∀ q, s.heap.size ≤ q → A q) (hA2 : ∀ q, A q → s.heap.size ≤ q) (hS : va_S A s.heap H locs) (hl : lv_has ls 4 [(3, .int 0), (2, .ref h), (1, .ref (a 0)), (0, .ref b)]) : W p l e room_1 s m #[Value.ref b] below meth c H locs 116 197732 (lw_Z below #[Value.ref b] s) (F0 m 1731 ls []) := by
  have hP := hP.sub (ws' := [(a 0, .inr (11, [.ref (a 1), .ref (a 2), .ref (a 3), .ref (a 4), .ref (a 5), .ref (a 6), .ref (a 7), .ref (a 8), .ref (a 9), .ref (a 10), .ref (a 11), .ref (a 12), .int 100])), (a 5, .inr (4, [.ref (a 18), .ref (a 19), .ref (a 20), .ref (a 21), .ref (a 22), .ref (a 23), .ref (a 24), .int 0, .int 0, .int 0, .int 1])), (h, .inr (12, mG q i0))]) [0, 4, 27] rfl
  have hD := hD.sub (ws' := [(a 0, .inr (11, [.ref (a 1), .ref (a 2), .ref (a 3), .ref (a 4), .ref (a 5), .ref (a 6), .ref (a 7), .ref (a 8), .ref (a 9), .ref (a 10), .ref (a 11), .ref (a 12), .int 100])), (a 5, .inr (4, [.ref (a 18), .ref (a 19), .ref (a 20), .ref (a 21), .ref (a 22), .ref (a 23), .ref (a 24), .int 0, .int 0, .int 0, .int 1])), (h, .inr (12, mG q i0))]) [0, 4, 27] (by decide) rfl
  refine lv_aload_n hx hb dL_law_1731 rfl (lv_at hl 2 rfl) ?_
  refine lv_aload_n hx hb dL_law_1732 rfl (lv_at hl 3 rfl) ?_
  refine lv_iload_n hx hb dL_law_1733 rfl (lv_at hl 0 rfl) ?_
  refine lv_iconst (v := 1) hx hb dL_law_1734 (by decide) ?_
  refine lv_iadd hx hb dL_law_1735 ?_
  refine lv_topv (y := 1) (by decide) ?_
  refine va_sld hx hb hX hbl hbA hS (by unfold vp_in; decide) dL_law_1736 ?_
  refine lv_topv (y := xs 1) (congrArg xs (by decide)) ?_
  refine eWi (wr := [(h, .inr (12, mG q i0))]) (va_runV (As := [.int (xs 1)]) (rest := []) ⟨hx, hb, hml, hown, hts⟩ (c_X11_pace l D cI cB cZ cJ [(cT, .object "NailStain$Text")] a (xs 1) H.size) (zV hts k_1276 v_X11_pace ⟨Nat.le_of_ble_eq_true rfl, Nat.le_of_ble_eq_true rfl⟩) (pV (pxS hK hP hD [0, 1] (by decide) rfl) hK hP 0 rfl rfl) rfl rfl hl.1 rfl (lv_room (Nat.le_of_ble_eq_true rfl)) dL_law_1737 ⟨Nat.le_of_ble_eq_true rfl, Nat.le_of_ble_eq_true rfl⟩) hP hD hS hA [0, 1] [2] rfl rfl (by decide) (by decide) (fun r_1 u_2 H locs wr_1 hP hD hS => ?_)
  have hP : va_P D vwCl [(h, .inr (12, mG q i0))] H := hP
  have hD : va_D A [(h, .inr (12, mG q i0))] := hD
  subst wr_1
  refine lv_aload_n hx hb dL_law_1740 rfl (lv_at hl 1 rfl) ?_
  refine lv_aload_n hx hb dL_law_1741 rfl (lv_at hl 3 rfl) ?_
  refine lv_iload_n hx hb dL_law_1742 rfl (lv_at hl 0 rfl) ?_
  refine lv_iconst (v := 1) hx hb dL_law_1743 (by decide) ?_
  refine lv_iadd hx hb dL_law_1744 ?_
  refine lv_topv (y := 1) (by decide) ?_
  refine va_sld hx hb hX hbl hbA hS (by unfold vp_in; decide) dL_law_1745 ?_
  refine lv_topv (y := xs 1) (congrArg xs (by decide)) ?_
  refine eWi (wr := []) (va_runV (As := [.int (xs 1)]) (rest := [.int (-1)]) ⟨hx, hb, hml, hown, hts⟩ (c_X12_pace l D cI cB cZ cJ [(cT, .object "NailStain$Text")] h q i0 (xs 1) rfl H.size) (zV hts k_2078 v_X12_pace ⟨Nat.le_of_ble_eq_true rfl, Nat.le_of_ble_eq_true rfl⟩) (pV (pxS hK hP hD [0] (by decide) rfl) hK hP 0 rfl rfl) rfl rfl hl.1 rfl (lv_room (Nat.le_of_ble_eq_true rfl)) dL_law_1746 ⟨Nat.le_of_ble_eq_true rfl, Nat.le_of_ble_eq_true rfl⟩) hP hD hS hA [0] [] rfl rfl (by decide) (by decide) (fun r_3 u_4 H locs wr_3 hP hD hS => ?_)
  have hP : va_P D vwCl [] H := hP
  have hD : va_D A [] := hD
  subst wr_3
  refine lv_icmp_eq (tgt := 1939) hx hb dL_law_1749 (by decide) (fun _ => ?_) (fun c => absurd rfl c)
  exact law_end hx hb hr hml hlocks hX hbl hbA hA hA2 hS hl

set_option maxHeartbeats 4000000 in
set_option maxRecDepth 100000 in
theorem law_c38 {p : Program} {l : Launch} {e : Env} {s : State} {m : MethodId} {below : List Frame} {meth : Method} {c : Code} {b : Nat} {xs : Nat → Int32} {H : Heap} {locs : List Loc} {ls : Array Slot} {A : Nat → Prop} (hx : p.tables.exec = Jvm.exec) (hb : c.code = cL_law) (hr : meth.sig.returnType = ret) (hml : c.maxLocals = 4) (hlocks : meth.locks = false) {D : va_G} {cI cB cZ cJ cT : ClassId} {h : Nat} {a q : Nat → Nat} {f g1 g2 : Nat → Int32} (hown : s.vm.findClass RL = some m.cls) (hts : ∀ w ∈ TBL, w.before #[Value.ref b] s = true) (hK : KX D cI cB cZ cJ [(cT, .object "NailStain$Text")] s) (hP : va_P D vwCl (xW cI cB cZ cJ cT a f ++ mW cI cB cZ cJ h q g1 g2 i0) H) (hD : va_D A (xW cI cB cZ cJ cT a f ++ mW cI cB cZ cJ h q g1 g2 i0)) (hX : va_X b 7 xs s s.heap) (hbl : b < s.heap.size) (hbA : ¬ A b) (hA : ∀ q, s.heap.size ≤ q → A q) (hA2 : ∀ q, A q → s.heap.size ≤ q) (hS : va_S A s.heap H locs) (hl : lv_has ls 4 [(3, .int 0), (2, .ref h), (1, .ref (a 0)), (0, .ref b)]) : W p l e room_1 s m #[Value.ref b] below meth c H locs 116 197732 (lw_Z below #[Value.ref b] s) (F0 m 1754 ls []) := by
  have hP := hP.sub (ws' := [(a 0, .inr (11, [.ref (a 1), .ref (a 2), .ref (a 3), .ref (a 4), .ref (a 5), .ref (a 6), .ref (a 7), .ref (a 8), .ref (a 9), .ref (a 10), .ref (a 11), .ref (a 12), .int 100])), (a 5, .inr (4, [.ref (a 18), .ref (a 19), .ref (a 20), .ref (a 21), .ref (a 22), .ref (a 23), .ref (a 24), .int 0, .int 0, .int 0, .int 1])), (a 7, .inr (2, [.ref (a 5), .ref (a 30), .ref (a 31), .ref (a 32), .ref (a 33), .ref (a 34), .ref (a 35), .ref (a 36), .ref (a 37), .ref (a 38), .ref (a 39), .ref (a 40)])), (h, .inr (12, mG q i0))]) [0, 4, 6, 27] rfl
  have hD := hD.sub (ws' := [(a 0, .inr (11, [.ref (a 1), .ref (a 2), .ref (a 3), .ref (a 4), .ref (a 5), .ref (a 6), .ref (a 7), .ref (a 8), .ref (a 9), .ref (a 10), .ref (a 11), .ref (a 12), .int 100])), (a 5, .inr (4, [.ref (a 18), .ref (a 19), .ref (a 20), .ref (a 21), .ref (a 22), .ref (a 23), .ref (a 24), .int 0, .int 0, .int 0, .int 1])), (a 7, .inr (2, [.ref (a 5), .ref (a 30), .ref (a 31), .ref (a 32), .ref (a 33), .ref (a 34), .ref (a 35), .ref (a 36), .ref (a 37), .ref (a 38), .ref (a 39), .ref (a 40)])), (h, .inr (12, mG q i0))]) [0, 4, 6, 27] (by decide) rfl
  refine lv_aload_n hx hb dL_law_1754 rfl (lv_at hl 2 rfl) ?_
  refine lv_aload_n hx hb dL_law_1755 rfl (lv_at hl 3 rfl) ?_
  refine lv_iload_n hx hb dL_law_1756 rfl (lv_at hl 0 rfl) ?_
  refine lv_iconst (v := 1) hx hb dL_law_1757 (by decide) ?_
  refine lv_iadd hx hb dL_law_1758 ?_
  refine lv_topv (y := 1) (by decide) ?_
  refine va_sld hx hb hX hbl hbA hS (by unfold vp_in; decide) dL_law_1759 ?_
  refine lv_topv (y := xs 1) (congrArg xs (by decide)) ?_
  refine lv_aload_n hx hb dL_law_1760 rfl (lv_at hl 3 rfl) ?_
  refine lv_iload_n hx hb dL_law_1761 rfl (lv_at hl 0 rfl) ?_
  refine lv_iconst (v := 2) hx hb dL_law_1762 (by decide) ?_
  refine lv_iadd hx hb dL_law_1763 ?_
  refine lv_topv (y := 2) (by decide) ?_
  refine va_sld hx hb hX hbl hbA hS (by unfold vp_in; decide) dL_law_1764 ?_
  refine lv_topv (y := xs 2) (congrArg xs (by decide)) ?_
  refine eWi (wr := [(h, .inr (12, mG q i0))]) (va_runV (As := [.int (xs 1), .int (xs 2)]) (rest := []) ⟨hx, hb, hml, hown, hts⟩ (c_X11_length l D cI cB cZ cJ [(cT, .object "NailStain$Text")] a (xs 1) (xs 2) H.size) (zV hts k_1283 v_X11_length ⟨Nat.le_of_ble_eq_true rfl, Nat.le_of_ble_eq_true rfl⟩) (pV (pxS hK hP hD [0, 1, 2] (by decide) rfl) hK hP 0 rfl rfl) rfl rfl hl.1 rfl (lv_room (Nat.le_of_ble_eq_true rfl)) dL_law_1765 ⟨Nat.le_of_ble_eq_true rfl, Nat.le_of_ble_eq_true rfl⟩) hP hD hS hA [0, 1, 2] [3] rfl rfl (by decide) (by decide) (fun r_1 u_2 H locs wr_1 hP hD hS => ?_)
  have hP : va_P D vwCl [(h, .inr (12, mG q i0))] H := hP
  have hD : va_D A [(h, .inr (12, mG q i0))] := hD
  subst wr_1
  refine lv_aload_n hx hb dL_law_1768 rfl (lv_at hl 1 rfl) ?_
  refine lv_aload_n hx hb dL_law_1769 rfl (lv_at hl 3 rfl) ?_
  refine lv_iload_n hx hb dL_law_1770 rfl (lv_at hl 0 rfl) ?_
  refine lv_iconst (v := 1) hx hb dL_law_1771 (by decide) ?_
  refine lv_iadd hx hb dL_law_1772 ?_
  refine lv_topv (y := 1) (by decide) ?_
  refine va_sld hx hb hX hbl hbA hS (by unfold vp_in; decide) dL_law_1773 ?_
  refine lv_topv (y := xs 1) (congrArg xs (by decide)) ?_
  refine lv_aload_n hx hb dL_law_1774 rfl (lv_at hl 3 rfl) ?_
  refine lv_iload_n hx hb dL_law_1775 rfl (lv_at hl 0 rfl) ?_
  refine lv_iconst (v := 2) hx hb dL_law_1776 (by decide) ?_
  refine lv_iadd hx hb dL_law_1777 ?_
  refine lv_topv (y := 2) (by decide) ?_
  refine va_sld hx hb hX hbl hbA hS (by unfold vp_in; decide) dL_law_1778 ?_
  refine lv_topv (y := xs 2) (congrArg xs (by decide)) ?_
  refine eWi (wr := []) (va_runV (As := [.int (xs 1), .int (xs 2)]) (rest := [.int (-1)]) ⟨hx, hb, hml, hown, hts⟩ (c_X12_length l D cI cB cZ cJ [(cT, .object "NailStain$Text")] h q i0 (xs 1) (xs 2) rfl H.size) (zV hts k_2086 v_X12_length ⟨Nat.le_of_ble_eq_true rfl, Nat.le_of_ble_eq_true rfl⟩) (pV (pxS hK hP hD [0] (by decide) rfl) hK hP 0 rfl rfl) rfl rfl hl.1 rfl (lv_room (Nat.le_of_ble_eq_true rfl)) dL_law_1779 ⟨Nat.le_of_ble_eq_true rfl, Nat.le_of_ble_eq_true rfl⟩) hP hD hS hA [0] [] rfl rfl (by decide) (by decide) (fun r_3 u_4 H locs wr_3 hP hD hS => ?_)
  have hP : va_P D vwCl [] H := hP
  have hD : va_D A [] := hD
  subst wr_3
  refine lv_icmp_eq (tgt := 1939) hx hb dL_law_1782 (by decide) (fun _ => ?_) (fun c => absurd rfl c)
  exact law_end hx hb hr hml hlocks hX hbl hbA hA hA2 hS hl

set_option maxHeartbeats 4000000 in
set_option maxRecDepth 100000 in
theorem law_c39 {p : Program} {l : Launch} {e : Env} {s : State} {m : MethodId} {below : List Frame} {meth : Method} {c : Code} {b : Nat} {xs : Nat → Int32} {H : Heap} {locs : List Loc} {ls : Array Slot} {A : Nat → Prop} (hx : p.tables.exec = Jvm.exec) (hb : c.code = cL_law) (hr : meth.sig.returnType = ret) (hml : c.maxLocals = 4) (hlocks : meth.locks = false) {D : va_G} {cI cB cZ cJ cT : ClassId} {h : Nat} {a q : Nat → Nat} {f g1 g2 : Nat → Int32} (hown : s.vm.findClass RL = some m.cls) (hts : ∀ w ∈ TBL, w.before #[Value.ref b] s = true) (hK : KX D cI cB cZ cJ [(cT, .object "NailStain$Text")] s) (hP : va_P D vwCl (xW cI cB cZ cJ cT a f ++ mW cI cB cZ cJ h q g1 g2 i0) H) (hD : va_D A (xW cI cB cZ cJ cT a f ++ mW cI cB cZ cJ h q g1 g2 i0)) (hX : va_X b 7 xs s s.heap) (hbl : b < s.heap.size) (hbA : ¬ A b) (hA : ∀ q, s.heap.size ≤ q → A q) (hA2 : ∀ q, A q → s.heap.size ≤ q) (hS : va_S A s.heap H locs) (hl : lv_has ls 4 [(3, .int 0), (2, .ref h), (1, .ref (a 0)), (0, .ref b)]) : W p l e room_1 s m #[Value.ref b] below meth c H locs 116 197732 (lw_Z below #[Value.ref b] s) (F0 m 1787 ls []) := by
  have hP := hP.sub (ws' := [(a 0, .inr (11, [.ref (a 1), .ref (a 2), .ref (a 3), .ref (a 4), .ref (a 5), .ref (a 6), .ref (a 7), .ref (a 8), .ref (a 9), .ref (a 10), .ref (a 11), .ref (a 12), .int 100])), (a 5, .inr (4, [.ref (a 18), .ref (a 19), .ref (a 20), .ref (a 21), .ref (a 22), .ref (a 23), .ref (a 24), .int 0, .int 0, .int 0, .int 1])), (a 8, .inr (1, [.ref (a 5), .ref (a 7), .ref (a 41), .ref (a 42), .ref (a 43), .ref (a 44), .int 0])), (h, .inr (12, mG q i0))]) [0, 4, 7, 27] rfl
  have hD := hD.sub (ws' := [(a 0, .inr (11, [.ref (a 1), .ref (a 2), .ref (a 3), .ref (a 4), .ref (a 5), .ref (a 6), .ref (a 7), .ref (a 8), .ref (a 9), .ref (a 10), .ref (a 11), .ref (a 12), .int 100])), (a 5, .inr (4, [.ref (a 18), .ref (a 19), .ref (a 20), .ref (a 21), .ref (a 22), .ref (a 23), .ref (a 24), .int 0, .int 0, .int 0, .int 1])), (a 8, .inr (1, [.ref (a 5), .ref (a 7), .ref (a 41), .ref (a 42), .ref (a 43), .ref (a 44), .int 0])), (h, .inr (12, mG q i0))]) [0, 4, 7, 27] (by decide) rfl
  refine lv_aload_n hx hb dL_law_1787 rfl (lv_at hl 2 rfl) ?_
  refine lv_aload_n hx hb dL_law_1788 rfl (lv_at hl 3 rfl) ?_
  refine lv_iload_n hx hb dL_law_1789 rfl (lv_at hl 0 rfl) ?_
  refine lv_iconst (v := 1) hx hb dL_law_1790 (by decide) ?_
  refine lv_iadd hx hb dL_law_1791 ?_
  refine lv_topv (y := 1) (by decide) ?_
  refine va_sld hx hb hX hbl hbA hS (by unfold vp_in; decide) dL_law_1792 ?_
  refine lv_topv (y := xs 1) (congrArg xs (by decide)) ?_
  refine lv_aload_n hx hb dL_law_1793 rfl (lv_at hl 3 rfl) ?_
  refine lv_iload_n hx hb dL_law_1794 rfl (lv_at hl 0 rfl) ?_
  refine lv_iconst (v := 2) hx hb dL_law_1795 (by decide) ?_
  refine lv_iadd hx hb dL_law_1796 ?_
  refine lv_topv (y := 2) (by decide) ?_
  refine va_sld hx hb hX hbl hbA hS (by unfold vp_in; decide) dL_law_1797 ?_
  refine lv_topv (y := xs 2) (congrArg xs (by decide)) ?_
  refine lv_aload_n hx hb dL_law_1798 rfl (lv_at hl 3 rfl) ?_
  refine lv_iload_n hx hb dL_law_1799 rfl (lv_at hl 0 rfl) ?_
  refine lv_iconst (v := 3) hx hb dL_law_1800 (by decide) ?_
  refine lv_iadd hx hb dL_law_1801 ?_
  refine lv_topv (y := 3) (by decide) ?_
  refine va_sld hx hb hX hbl hbA hS (by unfold vp_in; decide) dL_law_1802 ?_
  refine lv_topv (y := xs 3) (congrArg xs (by decide)) ?_
  refine lv_aload_n hx hb dL_law_1803 rfl (lv_at hl 3 rfl) ?_
  refine lv_iload_n hx hb dL_law_1804 rfl (lv_at hl 0 rfl) ?_
  refine lv_iconst (v := 4) hx hb dL_law_1805 (by decide) ?_
  refine lv_iadd hx hb dL_law_1806 ?_
  refine lv_topv (y := 4) (by decide) ?_
  refine va_sld hx hb hX hbl hbA hS (by unfold vp_in; decide) dL_law_1807 ?_
  refine lv_topv (y := xs 4) (congrArg xs (by decide)) ?_
  refine eWi (wr := [(h, .inr (12, mG q i0))]) (va_runV (As := [.int (xs 1), .int (xs 2), .int (xs 3), .int (xs 4)]) (rest := []) ⟨hx, hb, hml, hown, hts⟩ (c_X11_joints l D cI cB cZ cJ [(cT, .object "NailStain$Text")] a (xs 1) (xs 2) (xs 3) (xs 4) H.size) (zV hts k_1297 v_X11_joints ⟨Nat.le_of_ble_eq_true rfl, Nat.le_of_ble_eq_true rfl⟩) (pV (pxS hK hP hD [0, 1, 2] (by decide) rfl) hK hP 0 rfl rfl) rfl rfl hl.1 rfl (lv_room (Nat.le_of_ble_eq_true rfl)) dL_law_1808 ⟨Nat.le_of_ble_eq_true rfl, Nat.le_of_ble_eq_true rfl⟩) hP hD hS hA [0, 1, 2] [3] rfl rfl (by decide) (by decide) (fun r_1 u_2 H locs wr_1 hP hD hS => ?_)
  have hP : va_P D vwCl [(h, .inr (12, mG q i0))] H := hP
  have hD : va_D A [(h, .inr (12, mG q i0))] := hD
  subst wr_1
  refine lv_aload_n hx hb dL_law_1811 rfl (lv_at hl 1 rfl) ?_
  refine lv_aload_n hx hb dL_law_1812 rfl (lv_at hl 3 rfl) ?_
  refine lv_iload_n hx hb dL_law_1813 rfl (lv_at hl 0 rfl) ?_
  refine lv_iconst (v := 1) hx hb dL_law_1814 (by decide) ?_
  refine lv_iadd hx hb dL_law_1815 ?_
  refine lv_topv (y := 1) (by decide) ?_
  refine va_sld hx hb hX hbl hbA hS (by unfold vp_in; decide) dL_law_1816 ?_
  refine lv_topv (y := xs 1) (congrArg xs (by decide)) ?_
  refine lv_aload_n hx hb dL_law_1817 rfl (lv_at hl 3 rfl) ?_
  refine lv_iload_n hx hb dL_law_1818 rfl (lv_at hl 0 rfl) ?_
  refine lv_iconst (v := 2) hx hb dL_law_1819 (by decide) ?_
  refine lv_iadd hx hb dL_law_1820 ?_
  refine lv_topv (y := 2) (by decide) ?_
  refine va_sld hx hb hX hbl hbA hS (by unfold vp_in; decide) dL_law_1821 ?_
  refine lv_topv (y := xs 2) (congrArg xs (by decide)) ?_
  refine lv_aload_n hx hb dL_law_1822 rfl (lv_at hl 3 rfl) ?_
  refine lv_iload_n hx hb dL_law_1823 rfl (lv_at hl 0 rfl) ?_
  refine lv_iconst (v := 3) hx hb dL_law_1824 (by decide) ?_
  refine lv_iadd hx hb dL_law_1825 ?_
  refine lv_topv (y := 3) (by decide) ?_
  refine va_sld hx hb hX hbl hbA hS (by unfold vp_in; decide) dL_law_1826 ?_
  refine lv_topv (y := xs 3) (congrArg xs (by decide)) ?_
  refine lv_aload_n hx hb dL_law_1827 rfl (lv_at hl 3 rfl) ?_
  refine lv_iload_n hx hb dL_law_1828 rfl (lv_at hl 0 rfl) ?_
  refine lv_iconst (v := 4) hx hb dL_law_1829 (by decide) ?_
  refine lv_iadd hx hb dL_law_1830 ?_
  refine lv_topv (y := 4) (by decide) ?_
  refine va_sld hx hb hX hbl hbA hS (by unfold vp_in; decide) dL_law_1831 ?_
  refine lv_topv (y := xs 4) (congrArg xs (by decide)) ?_
  refine eWi (wr := []) (va_runV (As := [.int (xs 1), .int (xs 2), .int (xs 3), .int (xs 4)]) (rest := [.int (-3)]) ⟨hx, hb, hml, hown, hts⟩ (c_X12_joints l D cI cB cZ cJ [(cT, .object "NailStain$Text")] h q i0 (xs 1) (xs 2) (xs 3) (xs 4) rfl H.size) (zV hts k_2098 v_X12_joints ⟨Nat.le_of_ble_eq_true rfl, Nat.le_of_ble_eq_true rfl⟩) (pV (pxS hK hP hD [0] (by decide) rfl) hK hP 0 rfl rfl) rfl rfl hl.1 rfl (lv_room (Nat.le_of_ble_eq_true rfl)) dL_law_1832 ⟨Nat.le_of_ble_eq_true rfl, Nat.le_of_ble_eq_true rfl⟩) hP hD hS hA [0] [] rfl rfl (by decide) (by decide) (fun r_3 u_4 H locs wr_3 hP hD hS => ?_)
  have hP : va_P D vwCl [] H := hP
  have hD : va_D A [] := hD
  subst wr_3
  refine lv_icmp_eq (tgt := 1939) hx hb dL_law_1835 (by decide) (fun _ => ?_) (fun c => absurd rfl c)
  exact law_end hx hb hr hml hlocks hX hbl hbA hA hA2 hS hl

set_option maxHeartbeats 4000000 in
set_option maxRecDepth 100000 in
theorem law_c40 {p : Program} {l : Launch} {e : Env} {s : State} {m : MethodId} {below : List Frame} {meth : Method} {c : Code} {b : Nat} {xs : Nat → Int32} {H : Heap} {locs : List Loc} {ls : Array Slot} {A : Nat → Prop} (hx : p.tables.exec = Jvm.exec) (hb : c.code = cL_law) (hr : meth.sig.returnType = ret) (hml : c.maxLocals = 4) (hlocks : meth.locks = false) {D : va_G} {cI cB cZ cJ cT : ClassId} {h : Nat} {a q : Nat → Nat} {f g1 g2 : Nat → Int32} (hown : s.vm.findClass RL = some m.cls) (hts : ∀ w ∈ TBL, w.before #[Value.ref b] s = true) (hK : KX D cI cB cZ cJ [(cT, .object "NailStain$Text")] s) (hP : va_P D vwCl (xW cI cB cZ cJ cT a f ++ mW cI cB cZ cJ h q g1 g2 i0) H) (hD : va_D A (xW cI cB cZ cJ cT a f ++ mW cI cB cZ cJ h q g1 g2 i0)) (hX : va_X b 7 xs s s.heap) (hbl : b < s.heap.size) (hbA : ¬ A b) (hA : ∀ q, s.heap.size ≤ q → A q) (hA2 : ∀ q, A q → s.heap.size ≤ q) (hS : va_S A s.heap H locs) (hl : lv_has ls 4 [(3, .int 0), (2, .ref h), (1, .ref (a 0)), (0, .ref b)]) : W p l e room_1 s m #[Value.ref b] below meth c H locs 116 197732 (lw_Z below #[Value.ref b] s) (F0 m 1840 ls []) := by
  have hP := hP.sub (ws' := [(a 0, .inr (11, [.ref (a 1), .ref (a 2), .ref (a 3), .ref (a 4), .ref (a 5), .ref (a 6), .ref (a 7), .ref (a 8), .ref (a 9), .ref (a 10), .ref (a 11), .ref (a 12), .int 100])), (a 3, .inl (cT, 4, .inr (.inr (.inr (.inr (fun j => if j < 4 then some (a (13 + j)) else none)))))), (a 4, .inl (cI, 26, .inl (fun _ => 0))), (a 5, .inr (4, [.ref (a 18), .ref (a 19), .ref (a 20), .ref (a 21), .ref (a 22), .ref (a 23), .ref (a 24), .int 0, .int 0, .int 0, .int 1])), (a 15, .inr (9, [.ref (a 61), .ref (a 62), .ref (a 63), .ref (a 64), .ref (a 65), .int 0, .int 0, .int 0, .int 0])), (h, .inr (12, mG q i0)), (q 6, .inl (cI, 3, .inl (fun _ => 0)))]) [0, 2, 3, 4, 13, 27, 29] rfl
  have hD := hD.sub (ws' := [(a 0, .inr (11, [.ref (a 1), .ref (a 2), .ref (a 3), .ref (a 4), .ref (a 5), .ref (a 6), .ref (a 7), .ref (a 8), .ref (a 9), .ref (a 10), .ref (a 11), .ref (a 12), .int 100])), (a 3, .inl (cT, 4, .inr (.inr (.inr (.inr (fun j => if j < 4 then some (a (13 + j)) else none)))))), (a 4, .inl (cI, 26, .inl (fun _ => 0))), (a 5, .inr (4, [.ref (a 18), .ref (a 19), .ref (a 20), .ref (a 21), .ref (a 22), .ref (a 23), .ref (a 24), .int 0, .int 0, .int 0, .int 1])), (a 15, .inr (9, [.ref (a 61), .ref (a 62), .ref (a 63), .ref (a 64), .ref (a 65), .int 0, .int 0, .int 0, .int 0])), (h, .inr (12, mG q i0)), (q 6, .inl (cI, 3, .inl (fun _ => 0)))]) [0, 2, 3, 4, 13, 27, 29] (by decide) rfl
  refine lv_aload_n hx hb dL_law_1840 rfl (lv_at hl 2 rfl) ?_
  refine lv_aload_n hx hb dL_law_1841 rfl (lv_at hl 3 rfl) ?_
  refine lv_iload_n hx hb dL_law_1842 rfl (lv_at hl 0 rfl) ?_
  refine lv_iconst (v := 1) hx hb dL_law_1843 (by decide) ?_
  refine lv_iadd hx hb dL_law_1844 ?_
  refine lv_topv (y := 1) (by decide) ?_
  refine va_sld hx hb hX hbl hbA hS (by unfold vp_in; decide) dL_law_1845 ?_
  refine lv_topv (y := xs 1) (congrArg xs (by decide)) ?_
  refine lv_aload_n hx hb dL_law_1846 rfl (lv_at hl 3 rfl) ?_
  refine lv_iload_n hx hb dL_law_1847 rfl (lv_at hl 0 rfl) ?_
  refine lv_iconst (v := 2) hx hb dL_law_1848 (by decide) ?_
  refine lv_iadd hx hb dL_law_1849 ?_
  refine lv_topv (y := 2) (by decide) ?_
  refine va_sld hx hb hX hbl hbA hS (by unfold vp_in; decide) dL_law_1850 ?_
  refine lv_topv (y := xs 2) (congrArg xs (by decide)) ?_
  refine eWi (wr := [(h, .inr (12, mG q i0)), (q 6, .inl (cI, 3, .inl (fun _ => 0)))]) (va_runV (As := [.int (xs 1), .int (xs 2)]) (rest := []) ⟨hx, hb, hml, hown, hts⟩ (c_X11_lasts l D cI cB cZ cJ cT a (xs 1) (xs 2) H.size) (zV hts k_1324 v_X11_lasts ⟨Nat.le_of_ble_eq_true rfl, Nat.le_of_ble_eq_true rfl⟩) (pV (pxS hK hP hD [0, 1, 2, 3, 4] (by decide) rfl) hK hP 0 rfl rfl) rfl rfl hl.1 rfl (lv_room (Nat.le_of_ble_eq_true rfl)) dL_law_1851 ⟨Nat.le_of_ble_eq_true rfl, Nat.le_of_ble_eq_true rfl⟩) hP hD hS hA [0, 1, 2, 3, 4] [5, 6] rfl rfl (by decide) (by decide) (fun r_1 u_2 H locs wr_1 hP hD hS => ?_)
  have hP : va_P D vwCl [(h, .inr (12, mG q i0)), (q 6, .inl (cI, 3, .inl (fun _ => 0)))] H := hP
  have hD : va_D A [(h, .inr (12, mG q i0)), (q 6, .inl (cI, 3, .inl (fun _ => 0)))] := hD
  subst wr_1
  refine lv_aload_n hx hb dL_law_1854 rfl (lv_at hl 1 rfl) ?_
  refine lv_aload_n hx hb dL_law_1855 rfl (lv_at hl 3 rfl) ?_
  refine lv_iload_n hx hb dL_law_1856 rfl (lv_at hl 0 rfl) ?_
  refine lv_iconst (v := 1) hx hb dL_law_1857 (by decide) ?_
  refine lv_iadd hx hb dL_law_1858 ?_
  refine lv_topv (y := 1) (by decide) ?_
  refine va_sld hx hb hX hbl hbA hS (by unfold vp_in; decide) dL_law_1859 ?_
  refine lv_topv (y := xs 1) (congrArg xs (by decide)) ?_
  refine lv_aload_n hx hb dL_law_1860 rfl (lv_at hl 3 rfl) ?_
  refine lv_iload_n hx hb dL_law_1861 rfl (lv_at hl 0 rfl) ?_
  refine lv_iconst (v := 2) hx hb dL_law_1862 (by decide) ?_
  refine lv_iadd hx hb dL_law_1863 ?_
  refine lv_topv (y := 2) (by decide) ?_
  refine va_sld hx hb hX hbl hbA hS (by unfold vp_in; decide) dL_law_1864 ?_
  refine lv_topv (y := xs 2) (congrArg xs (by decide)) ?_
  refine eWi (wr := []) (va_runV (As := [.int (xs 1), .int (xs 2)]) (rest := [.int (if (1 ≤ (xs 1) ∧ (xs 1) ≤ 10000) ∧ 0 ≤ (xs 2) ∧ (xs 2) ≤ 100 then -2 else -1)]) ⟨hx, hb, hml, hown, hts⟩ (c_X12_lasts l D cI cB cZ cJ [(cT, .object "NailStain$Text")] h q i0 (xs 1) (xs 2) rfl rfl H.size) (zV hts k_2111 v_X12_lasts ⟨Nat.le_of_ble_eq_true rfl, Nat.le_of_ble_eq_true rfl⟩) (pV (pxS hK hP hD [0, 1] (by decide) rfl) hK hP 0 rfl rfl) rfl rfl hl.1 rfl (lv_room (Nat.le_of_ble_eq_true rfl)) dL_law_1865 ⟨Nat.le_of_ble_eq_true rfl, Nat.le_of_ble_eq_true rfl⟩) hP hD hS hA [0, 1] [] rfl rfl (by decide) (by decide) (fun r_3 u_4 H locs wr_3 hP hD hS => ?_)
  have hP : va_P D vwCl [] H := hP
  have hD : va_D A [] := hD
  subst wr_3
  refine lv_icmp_eq (tgt := 1939) hx hb dL_law_1868 (by decide) (fun _ => ?_) (fun c => absurd rfl c)
  exact law_end hx hb hr hml hlocks hX hbl hbA hA hA2 hS hl

set_option maxHeartbeats 4000000 in
set_option maxRecDepth 100000 in
theorem law_c41 {p : Program} {l : Launch} {e : Env} {s : State} {m : MethodId} {below : List Frame} {meth : Method} {c : Code} {b : Nat} {xs : Nat → Int32} {H : Heap} {locs : List Loc} {ls : Array Slot} {A : Nat → Prop} (hx : p.tables.exec = Jvm.exec) (hb : c.code = cL_law) (hr : meth.sig.returnType = ret) (hml : c.maxLocals = 4) (hlocks : meth.locks = false) {D : va_G} {cI cB cZ cJ cT : ClassId} {h : Nat} {a q : Nat → Nat} {f g1 g2 : Nat → Int32} (hown : s.vm.findClass RL = some m.cls) (hts : ∀ w ∈ TBL, w.before #[Value.ref b] s = true) (hK : KX D cI cB cZ cJ [(cT, .object "NailStain$Text")] s) (hP : va_P D vwCl (xW cI cB cZ cJ cT a f ++ mW cI cB cZ cJ h q g1 g2 i0) H) (hD : va_D A (xW cI cB cZ cJ cT a f ++ mW cI cB cZ cJ h q g1 g2 i0)) (hX : va_X b 7 xs s s.heap) (hbl : b < s.heap.size) (hbA : ¬ A b) (hA : ∀ q, s.heap.size ≤ q → A q) (hA2 : ∀ q, A q → s.heap.size ≤ q) (hS : va_S A s.heap H locs) (hl : lv_has ls 4 [(3, .int 0), (2, .ref h), (1, .ref (a 0)), (0, .ref b)]) : W p l e room_1 s m #[Value.ref b] below meth c H locs 116 197732 (lw_Z below #[Value.ref b] s) (F0 m 1873 ls []) := by
  have hP := hP.sub (ws' := [(a 0, .inr (11, [.ref (a 1), .ref (a 2), .ref (a 3), .ref (a 4), .ref (a 5), .ref (a 6), .ref (a 7), .ref (a 8), .ref (a 9), .ref (a 10), .ref (a 11), .ref (a 12), .int 100])), (a 1, .inr (8, [.ref (a 17), .int 0])), (a 5, .inr (4, [.ref (a 18), .ref (a 19), .ref (a 20), .ref (a 21), .ref (a 22), .ref (a 23), .ref (a 24), .int 0, .int 0, .int 0, .int 1])), (a 7, .inr (2, [.ref (a 5), .ref (a 30), .ref (a 31), .ref (a 32), .ref (a 33), .ref (a 34), .ref (a 35), .ref (a 36), .ref (a 37), .ref (a 38), .ref (a 39), .ref (a 40)])), (h, .inr (12, mG q i0))]) [0, 1, 4, 6, 27] rfl
  have hD := hD.sub (ws' := [(a 0, .inr (11, [.ref (a 1), .ref (a 2), .ref (a 3), .ref (a 4), .ref (a 5), .ref (a 6), .ref (a 7), .ref (a 8), .ref (a 9), .ref (a 10), .ref (a 11), .ref (a 12), .int 100])), (a 1, .inr (8, [.ref (a 17), .int 0])), (a 5, .inr (4, [.ref (a 18), .ref (a 19), .ref (a 20), .ref (a 21), .ref (a 22), .ref (a 23), .ref (a 24), .int 0, .int 0, .int 0, .int 1])), (a 7, .inr (2, [.ref (a 5), .ref (a 30), .ref (a 31), .ref (a 32), .ref (a 33), .ref (a 34), .ref (a 35), .ref (a 36), .ref (a 37), .ref (a 38), .ref (a 39), .ref (a 40)])), (h, .inr (12, mG q i0))]) [0, 1, 4, 6, 27] (by decide) rfl
  refine lv_aload_n hx hb dL_law_1873 rfl (lv_at hl 2 rfl) ?_
  refine lv_aload_n hx hb dL_law_1874 rfl (lv_at hl 3 rfl) ?_
  refine lv_iload_n hx hb dL_law_1875 rfl (lv_at hl 0 rfl) ?_
  refine lv_iconst (v := 1) hx hb dL_law_1876 (by decide) ?_
  refine lv_iadd hx hb dL_law_1877 ?_
  refine lv_topv (y := 1) (by decide) ?_
  refine va_sld hx hb hX hbl hbA hS (by unfold vp_in; decide) dL_law_1878 ?_
  refine lv_topv (y := xs 1) (congrArg xs (by decide)) ?_
  refine lv_aload_n hx hb dL_law_1879 rfl (lv_at hl 3 rfl) ?_
  refine lv_iload_n hx hb dL_law_1880 rfl (lv_at hl 0 rfl) ?_
  refine lv_iconst (v := 2) hx hb dL_law_1881 (by decide) ?_
  refine lv_iadd hx hb dL_law_1882 ?_
  refine lv_topv (y := 2) (by decide) ?_
  refine va_sld hx hb hX hbl hbA hS (by unfold vp_in; decide) dL_law_1883 ?_
  refine lv_topv (y := xs 2) (congrArg xs (by decide)) ?_
  refine lv_aload_n hx hb dL_law_1884 rfl (lv_at hl 3 rfl) ?_
  refine lv_iload_n hx hb dL_law_1885 rfl (lv_at hl 0 rfl) ?_
  refine lv_iconst (v := 3) hx hb dL_law_1886 (by decide) ?_
  refine lv_iadd hx hb dL_law_1887 ?_
  refine lv_topv (y := 3) (by decide) ?_
  refine va_sld hx hb hX hbl hbA hS (by unfold vp_in; decide) dL_law_1888 ?_
  refine lv_topv (y := xs 3) (congrArg xs (by decide)) ?_
  refine eWi (wr := [(h, .inr (12, mG q i0))]) (va_runV (As := [.int (xs 1), .int (xs 2), .int (xs 3)]) (rest := []) ⟨hx, hb, hml, hown, hts⟩ (c_X11_check l D cI cB cZ cJ [(cT, .object "NailStain$Text")] a (xs 1) (xs 2) (xs 3) H.size) (zV hts k_1329 v_X11_check ⟨Nat.le_of_ble_eq_true rfl, Nat.le_of_ble_eq_true rfl⟩) (pV (pxS hK hP hD [0, 1, 2, 3] (by decide) rfl) hK hP 0 rfl rfl) rfl rfl hl.1 rfl (lv_room (Nat.le_of_ble_eq_true rfl)) dL_law_1889 ⟨Nat.le_of_ble_eq_true rfl, Nat.le_of_ble_eq_true rfl⟩) hP hD hS hA [0, 1, 2, 3] [4] rfl rfl (by decide) (by decide) (fun r_1 u_2 H locs wr_1 hP hD hS => ?_)
  have hP : va_P D vwCl [(h, .inr (12, mG q i0))] H := hP
  have hD : va_D A [(h, .inr (12, mG q i0))] := hD
  subst wr_1
  refine lv_aload_n hx hb dL_law_1892 rfl (lv_at hl 1 rfl) ?_
  refine lv_aload_n hx hb dL_law_1893 rfl (lv_at hl 3 rfl) ?_
  refine lv_iload_n hx hb dL_law_1894 rfl (lv_at hl 0 rfl) ?_
  refine lv_iconst (v := 1) hx hb dL_law_1895 (by decide) ?_
  refine lv_iadd hx hb dL_law_1896 ?_
  refine lv_topv (y := 1) (by decide) ?_
  refine va_sld hx hb hX hbl hbA hS (by unfold vp_in; decide) dL_law_1897 ?_
  refine lv_topv (y := xs 1) (congrArg xs (by decide)) ?_
  refine lv_aload_n hx hb dL_law_1898 rfl (lv_at hl 3 rfl) ?_
  refine lv_iload_n hx hb dL_law_1899 rfl (lv_at hl 0 rfl) ?_
  refine lv_iconst (v := 2) hx hb dL_law_1900 (by decide) ?_
  refine lv_iadd hx hb dL_law_1901 ?_
  refine lv_topv (y := 2) (by decide) ?_
  refine va_sld hx hb hX hbl hbA hS (by unfold vp_in; decide) dL_law_1902 ?_
  refine lv_topv (y := xs 2) (congrArg xs (by decide)) ?_
  refine lv_aload_n hx hb dL_law_1903 rfl (lv_at hl 3 rfl) ?_
  refine lv_iload_n hx hb dL_law_1904 rfl (lv_at hl 0 rfl) ?_
  refine lv_iconst (v := 3) hx hb dL_law_1905 (by decide) ?_
  refine lv_iadd hx hb dL_law_1906 ?_
  refine lv_topv (y := 3) (by decide) ?_
  refine va_sld hx hb hX hbl hbA hS (by unfold vp_in; decide) dL_law_1907 ?_
  refine lv_topv (y := xs 3) (congrArg xs (by decide)) ?_
  refine eWi (wr := []) (va_runV (As := [.int (xs 1), .int (xs 2), .int (xs 3)]) (rest := [.int (-2)]) ⟨hx, hb, hml, hown, hts⟩ (c_X12_check l D cI cB cZ cJ [(cT, .object "NailStain$Text")] h q i0 (xs 1) (xs 2) (xs 3) rfl H.size) (zV hts k_2117 v_X12_check ⟨Nat.le_of_ble_eq_true rfl, Nat.le_of_ble_eq_true rfl⟩) (pV (pxS hK hP hD [0] (by decide) rfl) hK hP 0 rfl rfl) rfl rfl hl.1 rfl (lv_room (Nat.le_of_ble_eq_true rfl)) dL_law_1908 ⟨Nat.le_of_ble_eq_true rfl, Nat.le_of_ble_eq_true rfl⟩) hP hD hS hA [0] [] rfl rfl (by decide) (by decide) (fun r_3 u_4 H locs wr_3 hP hD hS => ?_)
  have hP : va_P D vwCl [] H := hP
  have hD : va_D A [] := hD
  subst wr_3
  refine lv_icmp_eq (tgt := 1939) hx hb dL_law_1911 (by decide) (fun _ => ?_) (fun c => absurd rfl c)
  exact law_end hx hb hr hml hlocks hX hbl hbA hA hA2 hS hl

set_option maxHeartbeats 4000000 in
set_option maxRecDepth 100000 in
theorem law_c42 {p : Program} {l : Launch} {e : Env} {s : State} {m : MethodId} {below : List Frame} {meth : Method} {c : Code} {b : Nat} {xs : Nat → Int32} {H : Heap} {locs : List Loc} {ls : Array Slot} {A : Nat → Prop} (hx : p.tables.exec = Jvm.exec) (hb : c.code = cL_law) (hr : meth.sig.returnType = ret) (hml : c.maxLocals = 4) (hlocks : meth.locks = false) {D : va_G} {cI cB cZ cJ cT : ClassId} {h : Nat} {a q : Nat → Nat} {f g1 g2 : Nat → Int32} (hown : s.vm.findClass RL = some m.cls) (hts : ∀ w ∈ TBL, w.before #[Value.ref b] s = true) (hK : KX D cI cB cZ cJ [(cT, .object "NailStain$Text")] s) (hP : va_P D vwCl (xW cI cB cZ cJ cT a f ++ mW cI cB cZ cJ h q g1 g2 i0) H) (hD : va_D A (xW cI cB cZ cJ cT a f ++ mW cI cB cZ cJ h q g1 g2 i0)) (hX : va_X b 7 xs s s.heap) (hbl : b < s.heap.size) (hbA : ¬ A b) (hA : ∀ q, s.heap.size ≤ q → A q) (hA2 : ∀ q, A q → s.heap.size ≤ q) (hS : va_S A s.heap H locs) (hl : lv_has ls 4 [(3, .int 0), (2, .ref h), (1, .ref (a 0)), (0, .ref b)]) : W p l e room_1 s m #[Value.ref b] below meth c H locs 116 197732 (lw_Z below #[Value.ref b] s) (F0 m 1916 ls []) := by
  have hP := hP.sub (ws' := [(a 0, .inr (11, [.ref (a 1), .ref (a 2), .ref (a 3), .ref (a 4), .ref (a 5), .ref (a 6), .ref (a 7), .ref (a 8), .ref (a 9), .ref (a 10), .ref (a 11), .ref (a 12), .int 100])), (a 1, .inr (8, [.ref (a 17), .int 0])), (a 3, .inl (cT, 4, .inr (.inr (.inr (.inr (fun j => if j < 4 then some (a (13 + j)) else none)))))), (a 5, .inr (4, [.ref (a 18), .ref (a 19), .ref (a 20), .ref (a 21), .ref (a 22), .ref (a 23), .ref (a 24), .int 0, .int 0, .int 0, .int 1])), (a 6, .inr (0, [.ref (a 5), .ref (a 25), .ref (a 26), .ref (a 27), .ref (a 28), .ref (a 29), .int 0])), (a 12, .inr (7, [.ref (a 48), .ref (a 49), .ref (a 50)])), (a 13, .inr (9, [.ref (a 51), .ref (a 52), .ref (a 53), .ref (a 54), .ref (a 55), .int 0, .int 0, .int 0, .int 0])), (a 14, .inr (9, [.ref (a 56), .ref (a 57), .ref (a 58), .ref (a 59), .ref (a 60), .int 0, .int 0, .int 0, .int 0])), (a 15, .inr (9, [.ref (a 61), .ref (a 62), .ref (a 63), .ref (a 64), .ref (a 65), .int 0, .int 0, .int 0, .int 0])), (a 49, .inl (cZ, 6, .inl (fun _ => 0))), (h, .inr (12, mG q i0)), (q 6, .inl (cI, 3, .inl (fun _ => 0))), (q 76, .inl (cZ, 6, .inl (fun _ => 0)))]) [0, 1, 2, 4, 5, 10, 11, 12, 13, 25, 27, 29, 30] rfl
  have hD := hD.sub (ws' := [(a 0, .inr (11, [.ref (a 1), .ref (a 2), .ref (a 3), .ref (a 4), .ref (a 5), .ref (a 6), .ref (a 7), .ref (a 8), .ref (a 9), .ref (a 10), .ref (a 11), .ref (a 12), .int 100])), (a 1, .inr (8, [.ref (a 17), .int 0])), (a 3, .inl (cT, 4, .inr (.inr (.inr (.inr (fun j => if j < 4 then some (a (13 + j)) else none)))))), (a 5, .inr (4, [.ref (a 18), .ref (a 19), .ref (a 20), .ref (a 21), .ref (a 22), .ref (a 23), .ref (a 24), .int 0, .int 0, .int 0, .int 1])), (a 6, .inr (0, [.ref (a 5), .ref (a 25), .ref (a 26), .ref (a 27), .ref (a 28), .ref (a 29), .int 0])), (a 12, .inr (7, [.ref (a 48), .ref (a 49), .ref (a 50)])), (a 13, .inr (9, [.ref (a 51), .ref (a 52), .ref (a 53), .ref (a 54), .ref (a 55), .int 0, .int 0, .int 0, .int 0])), (a 14, .inr (9, [.ref (a 56), .ref (a 57), .ref (a 58), .ref (a 59), .ref (a 60), .int 0, .int 0, .int 0, .int 0])), (a 15, .inr (9, [.ref (a 61), .ref (a 62), .ref (a 63), .ref (a 64), .ref (a 65), .int 0, .int 0, .int 0, .int 0])), (a 49, .inl (cZ, 6, .inl (fun _ => 0))), (h, .inr (12, mG q i0)), (q 6, .inl (cI, 3, .inl (fun _ => 0))), (q 76, .inl (cZ, 6, .inl (fun _ => 0)))]) [0, 1, 2, 4, 5, 10, 11, 12, 13, 25, 27, 29, 30] (by decide) rfl
  refine lv_aload_n hx hb dL_law_1916 rfl (lv_at hl 2 rfl) ?_
  refine lv_aload_n hx hb dL_law_1917 rfl (lv_at hl 3 rfl) ?_
  refine lv_iload_n hx hb dL_law_1918 rfl (lv_at hl 0 rfl) ?_
  refine lv_iconst (v := 1) hx hb dL_law_1919 (by decide) ?_
  refine lv_iadd hx hb dL_law_1920 ?_
  refine lv_topv (y := 1) (by decide) ?_
  refine va_sld hx hb hX hbl hbA hS (by unfold vp_in; decide) dL_law_1921 ?_
  refine lv_topv (y := xs 1) (congrArg xs (by decide)) ?_
  refine eWi (wr := [(h, .inr (12, mG q i0)), (q 6, .inl (cI, 3, .inl (fun _ => 0))), (q 76, .inl (cZ, 6, .inl (fun _ => 0)))]) (va_runV (As := [.int (xs 1)]) (rest := []) ⟨hx, hb, hml, hown, hts⟩ (c_X11_count l D cI cB cZ cJ cT a (xs 1) H.size) (zV hts k_1342 v_X11_count ⟨Nat.le_of_ble_eq_true rfl, Nat.le_of_ble_eq_true rfl⟩) (pV (pxS hK hP hD [0, 1, 2, 3, 4, 5, 9, 6, 7, 8] (by decide) rfl) hK hP 0 rfl rfl) rfl rfl hl.1 rfl (lv_room (Nat.le_of_ble_eq_true rfl)) dL_law_1922 ⟨Nat.le_of_ble_eq_true rfl, Nat.le_of_ble_eq_true rfl⟩) hP hD hS hA [0, 1, 2, 3, 4, 5, 9, 6, 7, 8] [10, 11, 12] rfl rfl (by decide) (by decide) (fun r_1 u_2 H locs wr_1 hP hD hS => ?_)
  have hP : va_P D vwCl [(h, .inr (12, mG q i0)), (q 6, .inl (cI, 3, .inl (fun _ => 0))), (q 76, .inl (cZ, 6, .inl (fun _ => 0)))] H := hP
  have hD : va_D A [(h, .inr (12, mG q i0)), (q 6, .inl (cI, 3, .inl (fun _ => 0))), (q 76, .inl (cZ, 6, .inl (fun _ => 0)))] := hD
  subst wr_1
  refine lv_aload_n hx hb dL_law_1925 rfl (lv_at hl 1 rfl) ?_
  refine lv_aload_n hx hb dL_law_1926 rfl (lv_at hl 3 rfl) ?_
  refine lv_iload_n hx hb dL_law_1927 rfl (lv_at hl 0 rfl) ?_
  refine lv_iconst (v := 1) hx hb dL_law_1928 (by decide) ?_
  refine lv_iadd hx hb dL_law_1929 ?_
  refine lv_topv (y := 1) (by decide) ?_
  refine va_sld hx hb hX hbl hbA hS (by unfold vp_in; decide) dL_law_1930 ?_
  refine lv_topv (y := xs 1) (congrArg xs (by decide)) ?_
  refine eWi (wr := []) (va_runV (As := [.int (xs 1)]) (rest := [.int (sp_count (xs 1))]) ⟨hx, hb, hml, hown, hts⟩ (c_X12_count l D cI cB cZ cJ [(cT, .object "NailStain$Text")] h q i0 (xs 1) rfl rfl rfl rfl rfl H.size) (zV hts k_2125 v_X12_count ⟨Nat.le_of_ble_eq_true rfl, Nat.le_of_ble_eq_true rfl⟩) (pV (pxS hK hP hD [0, 1, 2] (by decide) rfl) hK hP 0 rfl rfl) rfl rfl hl.1 rfl (lv_room (Nat.le_of_ble_eq_true rfl)) dL_law_1931 ⟨Nat.le_of_ble_eq_true rfl, Nat.le_of_ble_eq_true rfl⟩) hP hD hS hA [0, 1, 2] [] rfl rfl (by decide) (by decide) (fun r_3 u_4 H locs wr_3 hP hD hS => ?_)
  have hP : va_P D vwCl [] H := hP
  have hD : va_D A [] := hD
  subst wr_3
  refine lv_icmp_eq (tgt := 1939) hx hb dL_law_1934 (by decide) (fun _ => ?_) (fun c => absurd rfl c)
  exact law_end hx hb hr hml hlocks hX hbl hbA hA hA2 hS hl
