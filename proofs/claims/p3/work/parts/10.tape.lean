theorem lf_X11_within_2 (n : Int32) (lo : Int32) (hi : Int32) (c_1 : n < lo) : (0 : Int32) = bi (lo ≤ n ∧ n ≤ hi) := by
  first | rfl | (simp only [bi]; rw [if_pos (by grind)]; done) | (simp only [bi]; rw [if_neg (by grind)]; done) | grind
theorem lf_X11_within_4 (n : Int32) (lo : Int32) (hi : Int32) (c_1 : ¬ n < lo) (c_3 : hi < n) : (0 : Int32) = bi (lo ≤ n ∧ n ≤ hi) := by
  first | rfl | (simp only [bi]; rw [if_pos (by grind)]; done) | (simp only [bi]; rw [if_neg (by grind)]; done) | grind
theorem lf_X11_within_5 (n : Int32) (lo : Int32) (hi : Int32) (c_1 : ¬ n < lo) (c_3 : ¬ hi < n) : (1 : Int32) = bi (lo ≤ n ∧ n ≤ hi) := by
  first | rfl | (simp only [bi]; rw [if_pos (by grind)]; done) | (simp only [bi]; rw [if_neg (by grind)]; done) | grind
set_option maxHeartbeats 4000000 in
set_option maxRecDepth 100000 in
theorem c_X11_within (l : Launch) (D : va_G) (cI cB cZ cJ : ClassId) (tx : List (ClassId × FieldType)) (n : Int32) (lo : Int32) (hi : Int32) : RdI l D cI cB cZ cJ tx yX11_within cX11_within 3 (some .boolean) 0 [.int n, .int lo, .int hi] [] (fun r => r = bi (lo ≤ n ∧ n ≤ hi)) := by
  refine rdi_of2 (by decide) (Nat.le_of_ble_eq_true rfl) ?_
  intro p e s m below meth c A ls H locs hC hK hP hD hA hS hl
  obtain ⟨hx, hb, hr, hml, hown, hts, hlocks, hin⟩ := hC
  have hown : s.vm.findClass RX11 = some m.cls := hown
  have hl : lv_has ls 3 [(0, .int n), (1, .int lo), (2, .int hi)] := hl
  refine lv_iload_n hx hb dX11_within_0 rfl (lv_at hl 0 rfl) ?_
  refine lv_iload_n hx hb dX11_within_1 rfl (lv_at hl 1 rfl) ?_
  refine lv_icmp_lt (tgt := 14) hx hb dX11_within_2 (by decide) (fun c_1 => ?_) (fun c_1 => ?_)
  · refine lv_iconst (v := 0) hx hb dX11_within_14 (by decide) ?_
    exact W.zret (v := 0) hx hb hr (by decide) (fun tt9 ht hW => ⟨⟨(0 : Int32), (), rfl, (lf_X11_within_2 n lo hi c_1), trivial⟩, hS.F ht⟩) hS.2.2 dX11_within_15 hlocks
  · refine lv_iload_n hx hb dX11_within_5 rfl (lv_at hl 0 rfl) ?_
    refine lv_iload_n hx hb dX11_within_6 rfl (lv_at hl 2 rfl) ?_
    refine lv_icmp_gt (tgt := 14) hx hb dX11_within_7 (by decide) (fun c_3 => ?_) (fun c_3 => ?_)
    · refine lv_iconst (v := 0) hx hb dX11_within_14 (by decide) ?_
      exact W.zret (v := 0) hx hb hr (by decide) (fun tt9 ht hW => ⟨⟨(0 : Int32), (), rfl, (lf_X11_within_4 n lo hi c_1 c_3), trivial⟩, hS.F ht⟩) hS.2.2 dX11_within_15 hlocks
    · refine lv_iconst (v := 1) hx hb dX11_within_10 (by decide) ?_
      refine lv_goto (tgt := 15) hx hb dX11_within_11 (by decide) ?_
      exact W.zret (v := 1) hx hb hr (by decide) (fun tt9 ht hW => ⟨⟨(1 : Int32), (), rfl, (lf_X11_within_5 n lo hi c_1 c_3), trivial⟩, hS.F ht⟩) hS.2.2 dX11_within_15 hlocks

set_option maxHeartbeats 4000000 in
set_option maxRecDepth 100000 in
theorem c_X8_empty (l : Launch) (D : va_G) (cI cB cZ cJ : ClassId) (tx : List (ClassId × FieldType)) (a : Nat → Nat) (u : Nat) : WrV l D cI cB cZ cJ tx yX8_empty cX8_empty 1 none 0 0 0 [.ref (a 1)] [(a 1, .inr (8, [.ref (a 17), .int (nI u)]))] (fun (_ : Unit) => True) (fun _ => [(a 1, .inr (8, [.ref (a 17), .int 0]))]) := by
  refine wrv_of2 (by decide) (Nat.le_of_ble_eq_true rfl) ?_
  intro p e s m below meth c A ls H locs hC hK hP hD hA hS hl
  obtain ⟨hx, hb, hr, hml, hown, hts, hlocks, hin⟩ := hC
  have hown : s.vm.findClass RX8 = some m.cls := hown
  have hl : lv_has ls 1 [(0, .ref (a 1))] := hl
  refine lv_aload_n hx hb dX8_empty_0 rfl (lv_at hl 0 rfl) ?_
  refine lv_iconst (v := 0) hx hb dX8_empty_1 (by decide) ?_
  refine va_put (D := D) (ci := 8) (v := .int 0) (ty := .int) (C := RX8) (T := TX8) (N := 2) hx hb hts inT_X8 tyX8 tyX8_ok nmX8 hown hK.1 hP hD hS 0 rfl rfl 1 (by decide) (hts _ k_151) (fun _ h9 => h9) rfl (by decide +kernel) rfl rfl (Nat.le_of_ble_eq_true rfl) dX8_empty_2 (fun H locs hP hD hS => ?_)
  have hP : va_P D vwCl [(a 1, .inr (8, [.ref (a 17), .int 0]))] H := hP
  have hD : va_D A [(a 1, .inr (8, [.ref (a 17), .int 0]))] := hD
  exact W.vret hx hb hr (fun tt9 ht hW => ⟨⟨(), rfl, trivial, ⟨by rw [ht]; exact hP, hD⟩⟩, hS.F ht⟩) hS.2.2 dX8_empty_5 hlocks

theorem lf_X8_byteAt_2 (a : Nat → Nat) (u : Nat) (f : Nat → Int32) (n1 : Int32) (hu : u ≤ 220) (c_1 : n1 < 0) : True := by
  trivial
theorem lf_X8_byteAt_4 (a : Nat → Nat) (u : Nat) (f : Nat → Int32) (n1 : Int32) (hu : u ≤ 220) (c_1 : ¬ n1 < 0) (c_3 : nI u ≤ n1) : True := by
  trivial
theorem lf_X8_byteAt_5 (a : Nat → Nat) (u : Nat) (f : Nat → Int32) (n1 : Int32) (hu : u ≤ 220) (c_1 : ¬ n1 < 0) (c_3 : ¬ nI u ≤ n1) : vp_in n1 220 := by
  exact in_lt (by assumption) (by assumption) (by omega) (by decide)
theorem lf_X8_byteAt_8 (a : Nat → Nat) (u : Nat) (f : Nat → Int32) (n1 : Int32) (hu : u ≤ 220) (c_1 : ¬ n1 < 0) (c_3 : ¬ nI u ≤ n1) (x_6 : Int32) (x_7 : Int32) (ex_7 : x_7 = x_6 &&& 255) : True := by
  trivial
set_option maxHeartbeats 4000000 in
set_option maxRecDepth 100000 in
theorem c_X8_byteAt (l : Launch) (D : va_G) (cI cB cZ cJ : ClassId) (tx : List (ClassId × FieldType)) (a : Nat → Nat) (u : Nat) (f : Nat → Int32) (n1 : Int32) (hu : u ≤ 220) : RdI l D cI cB cZ cJ tx yX8_byteAt cX8_byteAt 2 (some .int) 0 [.ref (a 1), .int n1] [(a 1, .inr (8, [.ref (a 17), .int (nI u)])), (a 17, .inl (cB, 220, .inl f))] (fun r => True) := by
  refine rdi_of2 (by decide) (Nat.le_of_ble_eq_true rfl) ?_
  intro p e s m below meth c A ls H locs hC hK hP hD hA hS hl
  obtain ⟨hx, hb, hr, hml, hown, hts, hlocks, hin⟩ := hC
  have hown : s.vm.findClass RX8 = some m.cls := hown
  have hl : lv_has ls 2 [(0, .ref (a 1)), (1, .int n1)] := hl
  refine lv_iload_n hx hb dX8_byteAt_0 rfl (lv_at hl 1 rfl) ?_
  refine lv_if_lt (tgt := 25) hx hb dX8_byteAt_1 (by decide) (fun c_1 => ?_) (fun c_1 => ?_)
  · refine lv_iconst (v := (-1)) hx hb dX8_byteAt_25 (by decide) ?_
    exact W.iret (v := (-1)) hx hb hr (fun tt9 ht hW => ⟨⟨((-1) : Int32), (), rfl, (lf_X8_byteAt_2 a u f n1 hu c_1), trivial⟩, hS.F ht⟩) hS.2.2 dX8_byteAt_26 hlocks
  · refine lv_iload_n hx hb dX8_byteAt_4 rfl (lv_at hl 1 rfl) ?_
    refine lv_aload_n hx hb dX8_byteAt_5 rfl (lv_at hl 0 rfl) ?_
    refine va_get (D := D) (ci := 8) (v := .int (nI u)) (C := RX8) (T := TX8) (N := 2) hx hb hts inT_X8 hown hK.1 hP 0 rfl rfl 1 (by decide) (hts _ k_151) (fun _ h9 => h9) rfl dX8_byteAt_6 ?_
    refine lv_icmp_ge (tgt := 25) hx hb dX8_byteAt_9 (by decide) (fun c_3 => ?_) (fun c_3 => ?_)
    · refine lv_iconst (v := (-1)) hx hb dX8_byteAt_25 (by decide) ?_
      exact W.iret (v := (-1)) hx hb hr (fun tt9 ht hW => ⟨⟨((-1) : Int32), (), rfl, (lf_X8_byteAt_4 a u f n1 hu c_1 c_3), trivial⟩, hS.F ht⟩) hS.2.2 dX8_byteAt_26 hlocks
    · refine lv_aload_n hx hb dX8_byteAt_12 rfl (lv_at hl 0 rfl) ?_
      refine va_get (D := D) (ci := 8) (v := .ref (a 17)) (C := RX8) (T := TX8) (N := 2) hx hb hts inT_X8 hown hK.1 hP 0 rfl rfl 0 (by decide) (hts _ k_150) (fun _ h9 => h9) rfl dX8_byteAt_13 ?_
      refine lv_iload_n hx hb dX8_byteAt_16 rfl (lv_at hl 1 rfl) ?_
      refine ld_b hx hb hK hP 1 rfl (lf_X8_byteAt_5 a u f n1 hu c_1 c_3) dX8_byteAt_17 (fun x_6 => ?_)
      refine lv_sipush (v := 255) hx hb dX8_byteAt_18 (by decide) ?_
      refine lv_iand hx hb dX8_byteAt_21 ?_
      refine lv_topi (fun x_7 ex_7 => ?_)
      refine lv_goto (tgt := 26) hx hb dX8_byteAt_22 (by decide) ?_
      exact W.iret (v := x_7) hx hb hr (fun tt9 ht hW => ⟨⟨(x_7 : Int32), (), rfl, (lf_X8_byteAt_8 a u f n1 hu c_1 c_3 x_6 x_7 ex_7), trivial⟩, hS.F ht⟩) hS.2.2 dX8_byteAt_26 hlocks
