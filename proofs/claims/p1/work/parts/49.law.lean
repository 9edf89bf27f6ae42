set_option maxHeartbeats 4000000 in
set_option maxRecDepth 100000 in
theorem law_body {p : Program} {l : Launch} {e : Env} {s : State} {m : MethodId} {below : List Frame} {meth : Method} {c : Code} {b : Nat} {xs : Nat → Int32} {H : Heap} {locs : List Loc} {ls : Array Slot} {A : Nat → Prop} (hx : p.tables.exec = Jvm.exec) (hb : c.code = cL_law) (hr : meth.sig.returnType = ret) (hml : c.maxLocals = 4) (hlocks : meth.locks = false) {D : va_G} {cI cB cZ cJ cT : ClassId} {h : Nat} {a q : Nat → Nat} {f g1 g2 : Nat → Int32} (hown : s.vm.findClass RL = some m.cls) (hts : ∀ w ∈ TBL, w.before #[Value.ref b] s = true) (hK : KX D cI cB cZ cJ [(cT, .object "NailStain$Text")] s) (hP : va_P D vwCl (xW cI cB cZ cJ cT a f ++ mW cI cB cZ cJ h q g1 g2 i0) H) (hD : va_D A (xW cI cB cZ cJ cT a f ++ mW cI cB cZ cJ h q g1 g2 i0)) (hX : va_X b 7 xs s s.heap) (hbl : b < s.heap.size) (hbA : ¬ A b) (hA : ∀ q, s.heap.size ≤ q → A q) (hA2 : ∀ q, A q → s.heap.size ≤ q) (hS : va_S A s.heap H locs) (hl : lv_has ls 4 [(3, .int 0), (2, .ref h), (1, .ref (a 0)), (0, .ref b)]) : W p l e room_1 s m #[Value.ref b] below meth c H locs 116 197732 (lw_Z below #[Value.ref b] s) (F0 m 27 ls []) := by
  refine lv_aload_n hx hb dL_law_27 rfl (lv_at hl 3 rfl) ?_
  refine lv_iload_n hx hb dL_law_28 rfl (lv_at hl 0 rfl) ?_
  refine va_sld hx hb hX hbl hbA hS (by unfold vp_in; decide) dL_law_29 ?_
  refine lv_bipush (v := 63) hx hb dL_law_30 (by decide) ?_
  refine lv_iand hx hb dL_law_32 ?_
  obtain ⟨j, hj, ej⟩ := pk_andE (xs (0 : Int32).toNatClampNeg) (m := 63) 6 (by decide)
  refine lv_topv ej ?_
  rcases Nat.lt_or_ge j 43 with w | w
  · match j, w with
    | 0, _ =>
      refine lv_tableIn (off := 187) (tgt := 220) hx hb dL_law_33 (by decide) (by decide) rfl (by decide) ?_
      exact law_c0 hx hb hr hml hlocks hown hts hK hP hD hX hbl hbA hA hA2 hS hl
    | 1, _ =>
      refine lv_tableIn (off := 210) (tgt := 243) hx hb dL_law_33 (by decide) (by decide) rfl (by decide) ?_
      exact law_c1 hx hb hr hml hlocks hown hts hK hP hD hX hbl hbA hA hA2 hS hl
    | 2, _ =>
      refine lv_tableIn (off := 233) (tgt := 266) hx hb dL_law_33 (by decide) (by decide) rfl (by decide) ?_
      exact law_c2 hx hb hr hml hlocks hown hts hK hP hD hX hbl hbA hA hA2 hS hl
    | 3, _ =>
      refine lv_tableIn (off := 296) (tgt := 329) hx hb dL_law_33 (by decide) (by decide) rfl (by decide) ?_
      exact law_c3 hx hb hr hml hlocks hown hts hK hP hD hX hbl hbA hA hA2 hS hl
    | 4, _ =>
      refine lv_tableIn (off := 319) (tgt := 352) hx hb dL_law_33 (by decide) (by decide) rfl (by decide) ?_
      exact law_c4 hx hb hr hml hlocks hown hts hK hP hD hX hbl hbA hA hA2 hS hl
    | 5, _ =>
      refine lv_tableIn (off := 342) (tgt := 375) hx hb dL_law_33 (by decide) (by decide) rfl (by decide) ?_
      exact law_c5 hx hb hr hml hlocks hown hts hK hP hD hX hbl hbA hA hA2 hS hl
    | 6, _ =>
      refine lv_tableIn (off := 365) (tgt := 398) hx hb dL_law_33 (by decide) (by decide) rfl (by decide) ?_
      exact law_c6 hx hb hr hml hlocks hown hts hK hP hD hX hbl hbA hA hA2 hS hl
    | 7, _ =>
      refine lv_tableIn (off := 398) (tgt := 431) hx hb dL_law_33 (by decide) (by decide) rfl (by decide) ?_
      exact law_c7 hx hb hr hml hlocks hown hts hK hP hD hX hbl hbA hA hA2 hS hl
    | 8, _ =>
      refine lv_tableIn (off := 431) (tgt := 464) hx hb dL_law_33 (by decide) (by decide) rfl (by decide) ?_
      exact law_c8 hx hb hr hml hlocks hown hts hK hP hD hX hbl hbA hA hA2 hS hl
    | 9, _ =>
      refine lv_tableIn (off := 454) (tgt := 487) hx hb dL_law_33 (by decide) (by decide) rfl (by decide) ?_
      exact law_c9 hx hb hr hml hlocks hown hts hK hP hD hX hbl hbA hA hA2 hS hl
    | 10, _ =>
      refine lv_tableIn (off := 517) (tgt := 550) hx hb dL_law_33 (by decide) (by decide) rfl (by decide) ?_
      exact law_c10 hx hb hr hml hlocks hown hts hK hP hD hX hbl hbA hA hA2 hS hl
    | 11, _ =>
      refine lv_tableIn (off := 560) (tgt := 593) hx hb dL_law_33 (by decide) (by decide) rfl (by decide) ?_
      exact law_c11 hx hb hr hml hlocks hown hts hK hP hD hX hbl hbA hA hA2 hS hl
    | 12, _ =>
      refine lv_tableIn (off := 613) (tgt := 646) hx hb dL_law_33 (by decide) (by decide) rfl (by decide) ?_
      exact law_c12 hx hb hr hml hlocks hown hts hK hP hD hX hbl hbA hA hA2 hS hl
    | 13, _ =>
      refine lv_tableIn (off := 636) (tgt := 669) hx hb dL_law_33 (by decide) (by decide) rfl (by decide) ?_
      exact law_c13 hx hb hr hml hlocks hown hts hK hP hD hX hbl hbA hA hA2 hS hl
    | 14, _ =>
      refine lv_tableIn (off := 659) (tgt := 692) hx hb dL_law_33 (by decide) (by decide) rfl (by decide) ?_
      exact law_c14 hx hb hr hml hlocks hown hts hK hP hD hX hbl hbA hA hA2 hS hl
    | 15, _ =>
      refine lv_tableIn (off := 734) (tgt := 767) hx hb dL_law_33 (by decide) (by decide) rfl (by decide) ?_
      exact law_c15 hx hb hr hml hlocks hown hts hK hP hD hX hbl hbA hA hA2 hS hl
    | 16, _ =>
      refine lv_tableIn (off := 787) (tgt := 820) hx hb dL_law_33 (by decide) (by decide) rfl (by decide) ?_
      exact law_c16 hx hb hr hml hlocks hown hts hK hP hD hX hbl hbA hA hA2 hS hl
    | 17, _ =>
      refine lv_tableIn (off := 850) (tgt := 883) hx hb dL_law_33 (by decide) (by decide) rfl (by decide) ?_
      exact law_c17 hx hb hr hml hlocks hown hts hK hP hD hX hbl hbA hA hA2 hS hl
    | 18, _ =>
      refine lv_tableIn (off := 893) (tgt := 926) hx hb dL_law_33 (by decide) (by decide) rfl (by decide) ?_
      exact law_c18 hx hb hr hml hlocks hown hts hK hP hD hX hbl hbA hA hA2 hS hl
    | 19, _ =>
      refine lv_tableIn (off := 936) (tgt := 969) hx hb dL_law_33 (by decide) (by decide) rfl (by decide) ?_
      exact law_c19 hx hb hr hml hlocks hown hts hK hP hD hX hbl hbA hA hA2 hS hl
    | 20, _ =>
      refine lv_tableIn (off := 1011) (tgt := 1044) hx hb dL_law_33 (by decide) (by decide) rfl (by decide) ?_
      exact law_c20 hx hb hr hml hlocks hown hts hK hP hD hX hbl hbA hA hA2 hS hl
    | 21, _ =>
      refine lv_tableIn (off := 1064) (tgt := 1097) hx hb dL_law_33 (by decide) (by decide) rfl (by decide) ?_
      exact law_c21 hx hb hr hml hlocks hown hts hK hP hD hX hbl hbA hA hA2 hS hl
    | 22, _ =>
      refine lv_tableIn (off := 1108) (tgt := 1141) hx hb dL_law_33 (by decide) (by decide) rfl (by decide) ?_
      exact law_c22 hx hb hr hml hlocks hown hts hK hP hD hX hbl hbA hA hA2 hS hl
    | 23, _ =>
      refine lv_tableIn (off := 1151) (tgt := 1184) hx hb dL_law_33 (by decide) (by decide) rfl (by decide) ?_
      exact law_c23 hx hb hr hml hlocks hown hts hK hP hD hX hbl hbA hA hA2 hS hl
    | 24, _ =>
      refine lv_tableIn (off := 1204) (tgt := 1237) hx hb dL_law_33 (by decide) (by decide) rfl (by decide) ?_
      exact law_c24 hx hb hr hml hlocks hown hts hK hP hD hX hbl hbA hA hA2 hS hl
    | 25, _ =>
      refine lv_tableIn (off := 1248) (tgt := 1281) hx hb dL_law_33 (by decide) (by decide) rfl (by decide) ?_
      exact law_c25 hx hb hr hml hlocks hown hts hK hP hD hX hbl hbA hA hA2 hS hl
    | 26, _ =>
      refine lv_tableIn (off := 1291) (tgt := 1324) hx hb dL_law_33 (by decide) (by decide) rfl (by decide) ?_
      exact law_c26 hx hb hr hml hlocks hown hts hK hP hD hX hbl hbA hA hA2 hS hl
    | 27, _ =>
      refine lv_tableIn (off := 1314) (tgt := 1347) hx hb dL_law_33 (by decide) (by decide) rfl (by decide) ?_
      exact law_c27 hx hb hr hml hlocks hown hts hK hP hD hX hbl hbA hA hA2 hS hl
    | 28, _ =>
      refine lv_tableIn (off := 1348) (tgt := 1381) hx hb dL_law_33 (by decide) (by decide) rfl (by decide) ?_
      exact law_c28 hx hb hr hml hlocks hown hts hK hP hD hX hbl hbA hA hA2 hS hl
    | 29, _ =>
      refine lv_tableIn (off := 1391) (tgt := 1424) hx hb dL_law_33 (by decide) (by decide) rfl (by decide) ?_
      exact law_c29 hx hb hr hml hlocks hown hts hK hP hD hX hbl hbA hA hA2 hS hl
    | 30, _ =>
      refine lv_tableIn (off := 1434) (tgt := 1467) hx hb dL_law_33 (by decide) (by decide) rfl (by decide) ?_
      exact law_c30 hx hb hr hml hlocks hown hts hK hP hD hX hbl hbA hA hA2 hS hl
    | 31, _ =>
      refine lv_tableIn (off := 1477) (tgt := 1510) hx hb dL_law_33 (by decide) (by decide) rfl (by decide) ?_
      exact law_c31 hx hb hr hml hlocks hown hts hK hP hD hX hbl hbA hA hA2 hS hl
    | 32, _ =>
      refine lv_tableIn (off := 1510) (tgt := 1543) hx hb dL_law_33 (by decide) (by decide) rfl (by decide) ?_
      exact law_c32 hx hb hr hml hlocks hown hts hK hP hD hX hbl hbA hA hA2 hS hl
    | 33, _ =>
      refine lv_tableIn (off := 1534) (tgt := 1567) hx hb dL_law_33 (by decide) (by decide) rfl (by decide) ?_
      exact law_c33 hx hb hr hml hlocks hown hts hK hP hD hX hbl hbA hA hA2 hS hl
    | 34, _ =>
      refine lv_tableIn (off := 1557) (tgt := 1590) hx hb dL_law_33 (by decide) (by decide) rfl (by decide) ?_
      exact law_c34 hx hb hr hml hlocks hown hts hK hP hD hX hbl hbA hA hA2 hS hl
    | 35, _ =>
      refine lv_tableIn (off := 1611) (tgt := 1644) hx hb dL_law_33 (by decide) (by decide) rfl (by decide) ?_
      exact law_c35 hx hb hr hml hlocks hown hts hK hP hD hX hbl hbA hA hA2 hS hl
    | 36, _ =>
      refine lv_tableIn (off := 1655) (tgt := 1688) hx hb dL_law_33 (by decide) (by decide) rfl (by decide) ?_
      exact law_c36 hx hb hr hml hlocks hown hts hK hP hD hX hbl hbA hA hA2 hS hl
    | 37, _ =>
      refine lv_tableIn (off := 1698) (tgt := 1731) hx hb dL_law_33 (by decide) (by decide) rfl (by decide) ?_
      exact law_c37 hx hb hr hml hlocks hown hts hK hP hD hX hbl hbA hA hA2 hS hl
    | 38, _ =>
      refine lv_tableIn (off := 1721) (tgt := 1754) hx hb dL_law_33 (by decide) (by decide) rfl (by decide) ?_
      exact law_c38 hx hb hr hml hlocks hown hts hK hP hD hX hbl hbA hA hA2 hS hl
    | 39, _ =>
      refine lv_tableIn (off := 1754) (tgt := 1787) hx hb dL_law_33 (by decide) (by decide) rfl (by decide) ?_
      exact law_c39 hx hb hr hml hlocks hown hts hK hP hD hX hbl hbA hA hA2 hS hl
    | 40, _ =>
      refine lv_tableIn (off := 1807) (tgt := 1840) hx hb dL_law_33 (by decide) (by decide) rfl (by decide) ?_
      exact law_c40 hx hb hr hml hlocks hown hts hK hP hD hX hbl hbA hA hA2 hS hl
    | 41, _ =>
      refine lv_tableIn (off := 1840) (tgt := 1873) hx hb dL_law_33 (by decide) (by decide) rfl (by decide) ?_
      exact law_c41 hx hb hr hml hlocks hown hts hK hP hD hX hbl hbA hA hA2 hS hl
    | 42, _ =>
      refine lv_tableIn (off := 1883) (tgt := 1916) hx hb dL_law_33 (by decide) (by decide) rfl (by decide) ?_
      exact law_c42 hx hb hr hml hlocks hown hts hK hP hD hX hbl hbA hA hA2 hS hl
    | j + 43, w => exact absurd w (by omega)
  · refine lv_tableOut (tgt := 1939) hx hb dL_law_33 (Or.inr ?_) (by decide) ?_
    · rw [nI_toInt (by omega)]
      omega
    · exact law_end hx hb hr hml hlocks hX hbl hbA hA hA2 hS hl
set_option maxHeartbeats 4000000 in
set_option maxRecDepth 100000 in
theorem law_head {L : Nat} (hL : L ≤ 7) {p : Program} {l : Launch} {e : Env} {s : State} {m : MethodId} {below : List Frame} {meth : Method} {c : Code} {b : Nat} {xs : Nat → Int32} {H : Heap} {locs : List Loc} {ls : Array Slot} {A : Nat → Prop} (hx : p.tables.exec = Jvm.exec) (hb : c.code = cL_law) (hr : meth.sig.returnType = ret) (hml : c.maxLocals = 4) (hlocks : meth.locks = false) {D : va_G} {cI cB cZ cJ cT : ClassId} {h : Nat} {a q : Nat → Nat} {f g1 g2 : Nat → Int32} (hown : s.vm.findClass RL = some m.cls) (hts : ∀ w ∈ TBL, w.before #[Value.ref b] s = true) (hK : KX D cI cB cZ cJ [(cT, .object "NailStain$Text")] s) (hP : va_P D vwCl (xW cI cB cZ cJ cT a f ++ mW cI cB cZ cJ h q g1 g2 i0) H) (hD : va_D A (xW cI cB cZ cJ cT a f ++ mW cI cB cZ cJ h q g1 g2 i0)) (hX : va_X b L xs s s.heap) (hbl : b < s.heap.size) (hbA : ¬ A b) (hA : ∀ q, s.heap.size ≤ q → A q) (hA2 : ∀ q, A q → s.heap.size ≤ q) (hS : va_S A s.heap H locs) (hl : lv_has ls 4 [(3, .int 0), (2, .ref h), (1, .ref (a 0)), (0, .ref b)]) : W p l e room_1 s m #[Value.ref b] below meth c H locs 116 197732 (lw_Z below #[Value.ref b] s) (F0 m 18 ls []) := by
  refine lv_iload_n hx hb dL_law_18 rfl (lv_at hl 0 rfl) ?_
  refine lv_aload_n hx hb dL_law_19 rfl (lv_at hl 3 rfl) ?_
  refine va_slen hx hb hX hbl hbA hS dL_law_20 ?_
  refine lv_bipush (v := 7) hx hb dL_law_21 (by decide) ?_
  refine lv_isub hx hb dL_law_23 ?_
  rcases Nat.lt_or_ge L 7 with w | w
  · refine lv_icmp_gt (tgt := 1945) hx hb dL_law_24 (by decide) (fun _ => ?_) (fun c => absurd (pk_sneg (a := L) (b := 7) (by decide) w) c)
    exact law_ret (xs := xs) (by decide) (by decide) hx hb hr hml hlocks hA2 hS
  · have e7 : L = 7 := by omega
    subst e7
    refine lv_topv (y := 0) (by decide) ?_
    refine lv_icmp_gt (tgt := 1945) hx hb dL_law_24 (by decide) (fun c => absurd c (by decide)) (fun _ => ?_)
    exact law_body hx hb hr hml hlocks hown hts hK hP hD hX hbl hbA hA hA2 hS hl
