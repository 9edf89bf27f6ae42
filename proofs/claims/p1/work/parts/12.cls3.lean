theorem lf_X6_put_3 (a : Nat → Nat) (n1 : Int32) (n2 : Int32) (n3 : Int32) (hy1 : 0 ≤ n1 ∧ n1 ≤ 11) (hy2 : 0 ≤ n2 ∧ n2 ≤ 5) (x_1 : Int32) (ex_1 : x_1 = n2 * 12) (x_2 : Int32) (ex_2 : x_2 = x_1 + n1) : vp_in x_2 72 := by
  first | (unfold vp_in; decide) | (subst_vars; exact vp_in2 11 5 12 72 (by decide) (by decide) rfl rfl rfl hy2 hy1)
set_option maxHeartbeats 4000000 in
set_option maxRecDepth 100000 in
theorem c_X6_put (l : Launch) (D : va_G) (cI cB cZ cJ : ClassId) (tx : List (ClassId × FieldType)) (a : Nat → Nat) (n1 : Int32) (n2 : Int32) (n3 : Int32) (hy1 : 0 ≤ n1 ∧ n1 ≤ 11) (hy2 : 0 ≤ n2 ∧ n2 ≤ 5) : WrV l D cI cB cZ cJ tx yX6_put cX6_put 4 none 0 0 0 [.ref (a 11), .int n1, .int n2, .int n3] [(a 11, .inr (6, [.ref (a 47), .int 0, .int 0, .int 0, .int 0, .int 0])), (a 47, .inl (cI, 72, .inl (fun _ => 0)))] (fun (_ : Unit) => True) (fun _ => []) := by
  refine wrv_of2 (by decide) (Nat.le_of_ble_eq_true rfl) ?_
  intro p e s m below meth c A ls H locs hC hK hP hD hA hS hl
  obtain ⟨hx, hb, hr, hml, hown, hts, hlocks, hin⟩ := hC
  have hown : s.vm.findClass RX6 = some m.cls := hown
  have hl : lv_has ls 4 [(0, .ref (a 11)), (1, .int n1), (2, .int n2), (3, .int n3)] := hl
  refine lv_aload_n hx hb dX6_put_0 rfl (lv_at hl 0 rfl) ?_
  refine va_get (D := D) (ci := 6) (v := .ref (a 47)) (C := RX6) (T := TX6) (N := 6) hx hb hts inT_X6 hown hK.1 hP 0 rfl rfl 0 (by decide) (hts _ k_441) (fun _ h9 => h9) rfl dX6_put_1 ?_
  refine lv_iload_n hx hb dX6_put_4 rfl (lv_at hl 2 rfl) ?_
  refine lv_bipush (v := 12) hx hb dX6_put_5 (by decide) ?_
  refine lv_imul hx hb dX6_put_7 ?_
  refine lv_topi (fun x_1 ex_1 => ?_)
  refine lv_iload_n hx hb dX6_put_8 rfl (lv_at hl 1 rfl) ?_
  refine lv_iadd hx hb dX6_put_9 ?_
  refine lv_topi (fun x_2 ex_2 => ?_)
  refine lv_iload_n hx hb dX6_put_10 rfl (lv_at hl 3 rfl) ?_
  refine st_i hx hb hK hP hD hS 1 rfl (lf_X6_put_3 a n1 n2 n3 hy1 hy2 x_1 ex_1 x_2 ex_2) dX6_put_11 (fun f_4 H locs hP hD hS => ?_)
  have hP : va_P D vwCl [(a 11, .inr (6, [.ref (a 47), .int 0, .int 0, .int 0, .int 0, .int 0])), (a 47, .inl (cI, 72, .inl f_4))] H := hP
  have hD : va_D A [(a 11, .inr (6, [.ref (a 47), .int 0, .int 0, .int 0, .int 0, .int 0])), (a 47, .inl (cI, 72, .inl f_4))] := hD
  exact W.vret hx hb hr (fun t ht hW => ⟨⟨(), rfl, trivial, bx0⟩, hS.F ht⟩) hS.2.2 dX6_put_12 hlocks

theorem lf_X11_phosphor_3 (a : Nat → Nat) (n1 : Int32) (n2 : Int32) (n3 : Int32) (c_2 : ¬ ((0 : Int32) ≤ n1 ∧ n1 ≤ 11)) : (0 : Int32) = bi ((0 ≤ n1 ∧ n1 ≤ 11) ∧ (0 ≤ n2 ∧ n2 ≤ 5) ∧ 0 ≤ n3 ∧ n3 ≤ 999) := by
  first | rfl | (simp only [bi]; rw [if_pos (by grind)]; done) | (simp only [bi]; rw [if_neg (by grind)]; done) | grind
theorem lf_X11_phosphor_6 (a : Nat → Nat) (n1 : Int32) (n2 : Int32) (n3 : Int32) (c_2 : (0 : Int32) ≤ n1 ∧ n1 ≤ 11) (c_5 : ¬ ((0 : Int32) ≤ n2 ∧ n2 ≤ 5)) : (0 : Int32) = bi ((0 ≤ n1 ∧ n1 ≤ 11) ∧ (0 ≤ n2 ∧ n2 ≤ 5) ∧ 0 ≤ n3 ∧ n3 ≤ 999) := by
  first | rfl | (simp only [bi]; rw [if_pos (by grind)]; done) | (simp only [bi]; rw [if_neg (by grind)]; done) | grind
theorem lf_X11_phosphor_9 (a : Nat → Nat) (n1 : Int32) (n2 : Int32) (n3 : Int32) (c_2 : (0 : Int32) ≤ n1 ∧ n1 ≤ 11) (c_5 : (0 : Int32) ≤ n2 ∧ n2 ≤ 5) (c_8 : (0 : Int32) ≤ n3 ∧ n3 ≤ 999) : 0 ≤ n1 ∧ n1 ≤ 11 := by
  first | rfl | (simp only [bi]; rw [if_pos (by grind)]; done) | (simp only [bi]; rw [if_neg (by grind)]; done) | grind
theorem lf_X11_phosphor_10 (a : Nat → Nat) (n1 : Int32) (n2 : Int32) (n3 : Int32) (c_2 : (0 : Int32) ≤ n1 ∧ n1 ≤ 11) (c_5 : (0 : Int32) ≤ n2 ∧ n2 ≤ 5) (c_8 : (0 : Int32) ≤ n3 ∧ n3 ≤ 999) : 0 ≤ n2 ∧ n2 ≤ 5 := by
  first | rfl | (simp only [bi]; rw [if_pos (by grind)]; done) | (simp only [bi]; rw [if_neg (by grind)]; done) | grind
theorem lf_X11_phosphor_13 (a : Nat → Nat) (n1 : Int32) (n2 : Int32) (n3 : Int32) (c_2 : (0 : Int32) ≤ n1 ∧ n1 ≤ 11) (c_5 : (0 : Int32) ≤ n2 ∧ n2 ≤ 5) (c_8 : (0 : Int32) ≤ n3 ∧ n3 ≤ 999) : (1 : Int32) = bi ((0 ≤ n1 ∧ n1 ≤ 11) ∧ (0 ≤ n2 ∧ n2 ≤ 5) ∧ 0 ≤ n3 ∧ n3 ≤ 999) := by
  first | rfl | (simp only [bi]; rw [if_pos (by grind)]; done) | (simp only [bi]; rw [if_neg (by grind)]; done) | grind
theorem lf_X11_phosphor_14 (a : Nat → Nat) (n1 : Int32) (n2 : Int32) (n3 : Int32) (c_2 : (0 : Int32) ≤ n1 ∧ n1 ≤ 11) (c_5 : (0 : Int32) ≤ n2 ∧ n2 ≤ 5) (c_8 : ¬ ((0 : Int32) ≤ n3 ∧ n3 ≤ 999)) : (0 : Int32) = bi ((0 ≤ n1 ∧ n1 ≤ 11) ∧ (0 ≤ n2 ∧ n2 ≤ 5) ∧ 0 ≤ n3 ∧ n3 ≤ 999) := by
  first | rfl | (simp only [bi]; rw [if_pos (by grind)]; done) | (simp only [bi]; rw [if_neg (by grind)]; done) | grind
set_option maxHeartbeats 4000000 in
set_option maxRecDepth 100000 in
theorem c_X11_phosphor (l : Launch) (D : va_G) (cI cB cZ cJ : ClassId) (tx : List (ClassId × FieldType)) (a : Nat → Nat) (n1 : Int32) (n2 : Int32) (n3 : Int32) : WrI l D cI cB cZ cJ tx yX11_phosphor cX11_phosphor 4 (some .boolean) 1 0 0 [.ref (a 0), .int n1, .int n2, .int n3] [(a 0, .inr (11, [.ref (a 1), .ref (a 2), .ref (a 3), .ref (a 4), .ref (a 5), .ref (a 6), .ref (a 7), .ref (a 8), .ref (a 9), .ref (a 10), .ref (a 11), .ref (a 12), .int 100])), (a 11, .inr (6, [.ref (a 47), .int 0, .int 0, .int 0, .int 0, .int 0])), (a 47, .inl (cI, 72, .inl (fun _ => 0)))] (fun (r : Int32) (_ : Unit) => r = bi ((0 ≤ n1 ∧ n1 ≤ 11) ∧ (0 ≤ n2 ∧ n2 ≤ 5) ∧ 0 ≤ n3 ∧ n3 ≤ 999)) (fun _ => []) := by
  refine wri_of2 (by decide) (Nat.le_of_ble_eq_true rfl) ?_
  intro p e s m below meth c A ls H locs hC hK hP hD hA hS hl
  obtain ⟨hx, hb, hr, hml, hown, hts, hlocks, hin⟩ := hC
  have hown : s.vm.findClass RX11 = some m.cls := hown
  have hl : lv_has ls 4 [(0, .ref (a 0)), (1, .int n1), (2, .int n2), (3, .int n3)] := hl
  refine lv_iload_n hx hb dX11_phosphor_0 rfl (lv_at hl 1 rfl) ?_
  refine lv_iconst (v := 0) hx hb dX11_phosphor_1 (by decide) ?_
  refine lv_bipush (v := 11) hx hb dX11_phosphor_2 (by decide) ?_
  refine eRi (va_runS (As := [.int n1, .int 0, .int 11]) (rest := []) ⟨hx, hb, hml, hown, hts⟩ (c_X11_within l D cI cB cZ cJ tx n1 0 11 H.size) (zS hts k_527 v_X11_within ⟨Nat.le_of_ble_eq_true rfl, Nat.le_of_ble_eq_true rfl⟩) (px0 hK) rfl rfl hl.1 rfl (lv_room (Nat.le_of_ble_eq_true rfl)) dX11_phosphor_4 ⟨Nat.le_of_ble_eq_true rfl, Nat.le_of_ble_eq_true rfl⟩) hP hS hA (fun r_1 H locs wr_1 hP hS => ?_)
  subst wr_1
  refine lv_bi_eq (tgt := 30) hx hb dX11_phosphor_7 (by decide) (fun c_2 => ?_) (fun c_2 => ?_)
  · refine lv_iconst (v := 0) hx hb dX11_phosphor_30 (by decide) ?_
    exact W.zret (v := 0) hx hb hr (by decide) (fun t ht hW => ⟨⟨(0 : Int32), (), rfl, (lf_X11_phosphor_3 a n1 n2 n3 c_2), bx0⟩, hS.F ht⟩) hS.2.2 dX11_phosphor_31 hlocks
  · refine lv_iload_n hx hb dX11_phosphor_10 rfl (lv_at hl 2 rfl) ?_
    refine lv_iconst (v := 0) hx hb dX11_phosphor_11 (by decide) ?_
    refine lv_iconst (v := 5) hx hb dX11_phosphor_12 (by decide) ?_
    refine eRi (va_runS (As := [.int n2, .int 0, .int 5]) (rest := []) ⟨hx, hb, hml, hown, hts⟩ (c_X11_within l D cI cB cZ cJ tx n2 0 5 H.size) (zS hts k_527 v_X11_within ⟨Nat.le_of_ble_eq_true rfl, Nat.le_of_ble_eq_true rfl⟩) (px0 hK) rfl rfl hl.1 rfl (lv_room (Nat.le_of_ble_eq_true rfl)) dX11_phosphor_13 ⟨Nat.le_of_ble_eq_true rfl, Nat.le_of_ble_eq_true rfl⟩) hP hS hA (fun r_4 H locs wr_4 hP hS => ?_)
    subst wr_4
    refine lv_bi_eq (tgt := 30) hx hb dX11_phosphor_16 (by decide) (fun c_5 => ?_) (fun c_5 => ?_)
    · refine lv_iconst (v := 0) hx hb dX11_phosphor_30 (by decide) ?_
      exact W.zret (v := 0) hx hb hr (by decide) (fun t ht hW => ⟨⟨(0 : Int32), (), rfl, (lf_X11_phosphor_6 a n1 n2 n3 c_2 c_5), bx0⟩, hS.F ht⟩) hS.2.2 dX11_phosphor_31 hlocks
    · refine lv_iload_n hx hb dX11_phosphor_19 rfl (lv_at hl 3 rfl) ?_
      refine lv_iconst (v := 0) hx hb dX11_phosphor_20 (by decide) ?_
      refine lv_sipush (v := 999) hx hb dX11_phosphor_21 (by decide) ?_
      refine eRi (va_runS (As := [.int n3, .int 0, .int 999]) (rest := []) ⟨hx, hb, hml, hown, hts⟩ (c_X11_within l D cI cB cZ cJ tx n3 0 999 H.size) (zS hts k_527 v_X11_within ⟨Nat.le_of_ble_eq_true rfl, Nat.le_of_ble_eq_true rfl⟩) (px0 hK) rfl rfl hl.1 rfl (lv_room (Nat.le_of_ble_eq_true rfl)) dX11_phosphor_24 ⟨Nat.le_of_ble_eq_true rfl, Nat.le_of_ble_eq_true rfl⟩) hP hS hA (fun r_7 H locs wr_7 hP hS => ?_)
      subst wr_7
      refine lv_bi_ne (tgt := 32) hx hb dX11_phosphor_27 (by decide) (fun c_8 => ?_) (fun c_8 => ?_)
      · refine lv_aload_n hx hb dX11_phosphor_32 rfl (lv_at hl 0 rfl) ?_
        refine va_get (D := D) (ci := 11) (v := .ref (a 11)) (C := RX11) (T := TX11) (N := 13) hx hb hts inT_X11 hown hK.1 hP 0 rfl rfl 10 (by decide) (hts _ k_493) (fun _ h9 => h9) rfl dX11_phosphor_33 ?_
        refine lv_iload_n hx hb dX11_phosphor_36 rfl (lv_at hl 1 rfl) ?_
        refine lv_iload_n hx hb dX11_phosphor_37 rfl (lv_at hl 2 rfl) ?_
        refine lv_iload_n hx hb dX11_phosphor_38 rfl (lv_at hl 3 rfl) ?_
        refine eWv (wr := [(a 0, .inr (11, [.ref (a 1), .ref (a 2), .ref (a 3), .ref (a 4), .ref (a 5), .ref (a 6), .ref (a 7), .ref (a 8), .ref (a 9), .ref (a 10), .ref (a 11), .ref (a 12), .int 100]))]) (va_runV (As := [.int n1, .int n2, .int n3]) (rest := []) ⟨hx, hb, hml, hown, hts⟩ (c_X6_put l D cI cB cZ cJ tx a n1 n2 n3 (lf_X11_phosphor_9 a n1 n2 n3 c_2 c_5 c_8) (lf_X11_phosphor_10 a n1 n2 n3 c_2 c_5 c_8) H.size) (zV hts k_1169 v_X6_put ⟨Nat.le_of_ble_eq_true rfl, Nat.le_of_ble_eq_true rfl⟩) (pV (pxS hK hP hD [1, 2] (by decide) rfl) hK hP 1 rfl rfl) rfl rfl hl.1 rfl (lv_room (Nat.le_of_ble_eq_true rfl)) dX11_phosphor_39 ⟨Nat.le_of_ble_eq_true rfl, Nat.le_of_ble_eq_true rfl⟩) hP hD hS hA [1, 2] [0] rfl rfl (by decide) (by decide) (fun u_12 H locs wr_11 hP hD hS => ?_)
        have hP : va_P D vwCl [(a 0, .inr (11, [.ref (a 1), .ref (a 2), .ref (a 3), .ref (a 4), .ref (a 5), .ref (a 6), .ref (a 7), .ref (a 8), .ref (a 9), .ref (a 10), .ref (a 11), .ref (a 12), .int 100]))] H := hP
        have hD : va_D A [(a 0, .inr (11, [.ref (a 1), .ref (a 2), .ref (a 3), .ref (a 4), .ref (a 5), .ref (a 6), .ref (a 7), .ref (a 8), .ref (a 9), .ref (a 10), .ref (a 11), .ref (a 12), .int 100]))] := hD
        refine lv_iconst (v := 1) hx hb dX11_phosphor_42 (by decide) ?_
        exact W.zret (v := 1) hx hb hr (by decide) (fun t ht hW => ⟨⟨(1 : Int32), (), rfl, (lf_X11_phosphor_13 a n1 n2 n3 c_2 c_5 c_8), bx0⟩, hS.F ht⟩) hS.2.2 dX11_phosphor_43 hlocks
      · refine lv_iconst (v := 0) hx hb dX11_phosphor_30 (by decide) ?_
        exact W.zret (v := 0) hx hb hr (by decide) (fun t ht hW => ⟨⟨(0 : Int32), (), rfl, (lf_X11_phosphor_14 a n1 n2 n3 c_2 c_5 c_8), bx0⟩, hS.F ht⟩) hS.2.2 dX11_phosphor_31 hlocks

theorem lf_X7_tell_3 (a : Nat → Nat) (n1 : Int32) (n2 : Int32) (n3 : Int32) (hy1 : 0 ≤ n1 ∧ n1 ≤ 5) (hy2 : 0 ≤ n2 ∧ n2 ≤ 5) (x_1 : Int32) (ex_1 : x_1 = n1 * 6) (x_2 : Int32) (ex_2 : x_2 = x_1 + n2) : vp_in x_2 36 := by
  subst_vars; exact vp_in2 5 5 6 36 (by decide) (by decide) rfl rfl rfl hy1 hy2
theorem lf_X7_tell_5 (a : Nat → Nat) (n1 : Int32) (n2 : Int32) (n3 : Int32) (hy1 : 0 ≤ n1 ∧ n1 ≤ 5) (hy2 : 0 ≤ n2 ∧ n2 ≤ 5) (x_1 : Int32) (ex_1 : x_1 = n1 * 6) (x_2 : Int32) (ex_2 : x_2 = x_1 + n2) : vp_in n1 6 := by
  exact vp_in1 6 (by decide) rfl hy1
set_option maxHeartbeats 4000000 in
set_option maxRecDepth 100000 in
theorem c_X7_tell (l : Launch) (D : va_G) (cI cB cZ cJ : ClassId) (tx : List (ClassId × FieldType)) (a : Nat → Nat) (n1 : Int32) (n2 : Int32) (n3 : Int32) (hy1 : 0 ≤ n1 ∧ n1 ≤ 5) (hy2 : 0 ≤ n2 ∧ n2 ≤ 5) : WrV l D cI cB cZ cJ tx yX7_tell cX7_tell 4 none 0 0 0 [.ref (a 12), .int n1, .int n2, .int n3] [(a 12, .inr (7, [.ref (a 48), .ref (a 49), .ref (a 50)])), (a 48, .inl (cI, 36, .inl (fun _ => 0))), (a 49, .inl (cZ, 6, .inl (fun _ => 0)))] (fun (_ : Unit) => True) (fun _ => []) := by
  refine wrv_of2 (by decide) (Nat.le_of_ble_eq_true rfl) ?_
  intro p e s m below meth c A ls H locs hC hK hP hD hA hS hl
  obtain ⟨hx, hb, hr, hml, hown, hts, hlocks, hin⟩ := hC
  have hown : s.vm.findClass RX7 = some m.cls := hown
  have hl : lv_has ls 4 [(0, .ref (a 12)), (1, .int n1), (2, .int n2), (3, .int n3)] := hl
  refine lv_aload_n hx hb dX7_tell_0 rfl (lv_at hl 0 rfl) ?_
  refine va_get (D := D) (ci := 7) (v := .ref (a 48)) (C := RX7) (T := TX7) (N := 3) hx hb hts inT_X7 hown hK.1 hP 0 rfl rfl 0 (by decide) (hts _ k_471) (fun _ h9 => h9) rfl dX7_tell_1 ?_
  refine lv_iload_n hx hb dX7_tell_4 rfl (lv_at hl 1 rfl) ?_
  refine lv_bipush (v := 6) hx hb dX7_tell_5 (by decide) ?_
  refine lv_imul hx hb dX7_tell_7 ?_
  refine lv_topi (fun x_1 ex_1 => ?_)
  refine lv_iload_n hx hb dX7_tell_8 rfl (lv_at hl 2 rfl) ?_
  refine lv_iadd hx hb dX7_tell_9 ?_
  refine lv_topi (fun x_2 ex_2 => ?_)
  refine lv_iload_n hx hb dX7_tell_10 rfl (lv_at hl 3 rfl) ?_
  refine st_i hx hb hK hP hD hS 1 rfl (lf_X7_tell_3 a n1 n2 n3 hy1 hy2 x_1 ex_1 x_2 ex_2) dX7_tell_11 (fun f_4 H locs hP hD hS => ?_)
  have hP : va_P D vwCl [(a 12, .inr (7, [.ref (a 48), .ref (a 49), .ref (a 50)])), (a 48, .inl (cI, 36, .inl f_4)), (a 49, .inl (cZ, 6, .inl (fun _ => 0)))] H := hP
  have hD : va_D A [(a 12, .inr (7, [.ref (a 48), .ref (a 49), .ref (a 50)])), (a 48, .inl (cI, 36, .inl f_4)), (a 49, .inl (cZ, 6, .inl (fun _ => 0)))] := hD
  refine lv_aload_n hx hb dX7_tell_12 rfl (lv_at hl 0 rfl) ?_
  refine va_get (D := D) (ci := 7) (v := .ref (a 49)) (C := RX7) (T := TX7) (N := 3) hx hb hts inT_X7 hown hK.1 hP 0 rfl rfl 1 (by decide) (hts _ k_472) (fun _ h9 => h9) rfl dX7_tell_13 ?_
  refine lv_iload_n hx hb dX7_tell_16 rfl (lv_at hl 1 rfl) ?_
  refine lv_iconst (v := 1) hx hb dX7_tell_17 (by decide) ?_
  refine st_z hx hb hK hP hD hS 2 rfl (lf_X7_tell_5 a n1 n2 n3 hy1 hy2 x_1 ex_1 x_2 ex_2) dX7_tell_18 (fun f_6 H locs hP hD hS => ?_)
  have hP : va_P D vwCl [(a 12, .inr (7, [.ref (a 48), .ref (a 49), .ref (a 50)])), (a 48, .inl (cI, 36, .inl f_4)), (a 49, .inl (cZ, 6, .inl f_6))] H := hP
  have hD : va_D A [(a 12, .inr (7, [.ref (a 48), .ref (a 49), .ref (a 50)])), (a 48, .inl (cI, 36, .inl f_4)), (a 49, .inl (cZ, 6, .inl f_6))] := hD
  exact W.vret hx hb hr (fun t ht hW => ⟨⟨(), rfl, trivial, bx0⟩, hS.F ht⟩) hS.2.2 dX7_tell_19 hlocks

theorem lf_X11_story_3 (a : Nat → Nat) (n1 : Int32) (n2 : Int32) (n3 : Int32) (c_2 : ¬ ((0 : Int32) ≤ n1 ∧ n1 ≤ 5)) : (0 : Int32) = bi ((0 ≤ n1 ∧ n1 ≤ 5) ∧ (0 ≤ n2 ∧ n2 ≤ 5) ∧ 0 ≤ n3 ∧ n3 ≤ 1000) := by
  first | rfl | (simp only [bi]; rw [if_pos (by grind)]; done) | (simp only [bi]; rw [if_neg (by grind)]; done) | grind
theorem lf_X11_story_6 (a : Nat → Nat) (n1 : Int32) (n2 : Int32) (n3 : Int32) (c_2 : (0 : Int32) ≤ n1 ∧ n1 ≤ 5) (c_5 : ¬ ((0 : Int32) ≤ n2 ∧ n2 ≤ 5)) : (0 : Int32) = bi ((0 ≤ n1 ∧ n1 ≤ 5) ∧ (0 ≤ n2 ∧ n2 ≤ 5) ∧ 0 ≤ n3 ∧ n3 ≤ 1000) := by
  first | rfl | (simp only [bi]; rw [if_pos (by grind)]; done) | (simp only [bi]; rw [if_neg (by grind)]; done) | grind
theorem lf_X11_story_9 (a : Nat → Nat) (n1 : Int32) (n2 : Int32) (n3 : Int32) (c_2 : (0 : Int32) ≤ n1 ∧ n1 ≤ 5) (c_5 : (0 : Int32) ≤ n2 ∧ n2 ≤ 5) (c_8 : (0 : Int32) ≤ n3 ∧ n3 ≤ 1000) : 0 ≤ n1 ∧ n1 ≤ 5 := by
  first | rfl | (simp only [bi]; rw [if_pos (by grind)]; done) | (simp only [bi]; rw [if_neg (by grind)]; done) | grind
theorem lf_X11_story_10 (a : Nat → Nat) (n1 : Int32) (n2 : Int32) (n3 : Int32) (c_2 : (0 : Int32) ≤ n1 ∧ n1 ≤ 5) (c_5 : (0 : Int32) ≤ n2 ∧ n2 ≤ 5) (c_8 : (0 : Int32) ≤ n3 ∧ n3 ≤ 1000) : 0 ≤ n2 ∧ n2 ≤ 5 := by
  first | rfl | (simp only [bi]; rw [if_pos (by grind)]; done) | (simp only [bi]; rw [if_neg (by grind)]; done) | grind
theorem lf_X11_story_13 (a : Nat → Nat) (n1 : Int32) (n2 : Int32) (n3 : Int32) (c_2 : (0 : Int32) ≤ n1 ∧ n1 ≤ 5) (c_5 : (0 : Int32) ≤ n2 ∧ n2 ≤ 5) (c_8 : (0 : Int32) ≤ n3 ∧ n3 ≤ 1000) : (1 : Int32) = bi ((0 ≤ n1 ∧ n1 ≤ 5) ∧ (0 ≤ n2 ∧ n2 ≤ 5) ∧ 0 ≤ n3 ∧ n3 ≤ 1000) := by
  first | rfl | (simp only [bi]; rw [if_pos (by grind)]; done) | (simp only [bi]; rw [if_neg (by grind)]; done) | grind
theorem lf_X11_story_14 (a : Nat → Nat) (n1 : Int32) (n2 : Int32) (n3 : Int32) (c_2 : (0 : Int32) ≤ n1 ∧ n1 ≤ 5) (c_5 : (0 : Int32) ≤ n2 ∧ n2 ≤ 5) (c_8 : ¬ ((0 : Int32) ≤ n3 ∧ n3 ≤ 1000)) : (0 : Int32) = bi ((0 ≤ n1 ∧ n1 ≤ 5) ∧ (0 ≤ n2 ∧ n2 ≤ 5) ∧ 0 ≤ n3 ∧ n3 ≤ 1000) := by
  first | rfl | (simp only [bi]; rw [if_pos (by grind)]; done) | (simp only [bi]; rw [if_neg (by grind)]; done) | grind
set_option maxHeartbeats 4000000 in
set_option maxRecDepth 100000 in
theorem c_X11_story (l : Launch) (D : va_G) (cI cB cZ cJ : ClassId) (tx : List (ClassId × FieldType)) (a : Nat → Nat) (n1 : Int32) (n2 : Int32) (n3 : Int32) : WrI l D cI cB cZ cJ tx yX11_story cX11_story 4 (some .boolean) 1 0 0 [.ref (a 0), .int n1, .int n2, .int n3] [(a 0, .inr (11, [.ref (a 1), .ref (a 2), .ref (a 3), .ref (a 4), .ref (a 5), .ref (a 6), .ref (a 7), .ref (a 8), .ref (a 9), .ref (a 10), .ref (a 11), .ref (a 12), .int 100])), (a 12, .inr (7, [.ref (a 48), .ref (a 49), .ref (a 50)])), (a 48, .inl (cI, 36, .inl (fun _ => 0))), (a 49, .inl (cZ, 6, .inl (fun _ => 0)))] (fun (r : Int32) (_ : Unit) => r = bi ((0 ≤ n1 ∧ n1 ≤ 5) ∧ (0 ≤ n2 ∧ n2 ≤ 5) ∧ 0 ≤ n3 ∧ n3 ≤ 1000)) (fun _ => []) := by
  refine wri_of2 (by decide) (Nat.le_of_ble_eq_true rfl) ?_
  intro p e s m below meth c A ls H locs hC hK hP hD hA hS hl
  obtain ⟨hx, hb, hr, hml, hown, hts, hlocks, hin⟩ := hC
  have hown : s.vm.findClass RX11 = some m.cls := hown
  have hl : lv_has ls 4 [(0, .ref (a 0)), (1, .int n1), (2, .int n2), (3, .int n3)] := hl
  refine lv_iload_n hx hb dX11_story_0 rfl (lv_at hl 1 rfl) ?_
  refine lv_iconst (v := 0) hx hb dX11_story_1 (by decide) ?_
  refine lv_iconst (v := 5) hx hb dX11_story_2 (by decide) ?_
  refine eRi (va_runS (As := [.int n1, .int 0, .int 5]) (rest := []) ⟨hx, hb, hml, hown, hts⟩ (c_X11_within l D cI cB cZ cJ tx n1 0 5 H.size) (zS hts k_527 v_X11_within ⟨Nat.le_of_ble_eq_true rfl, Nat.le_of_ble_eq_true rfl⟩) (px0 hK) rfl rfl hl.1 rfl (lv_room (Nat.le_of_ble_eq_true rfl)) dX11_story_3 ⟨Nat.le_of_ble_eq_true rfl, Nat.le_of_ble_eq_true rfl⟩) hP hS hA (fun r_1 H locs wr_1 hP hS => ?_)
  subst wr_1
  refine lv_bi_eq (tgt := 29) hx hb dX11_story_6 (by decide) (fun c_2 => ?_) (fun c_2 => ?_)
  · refine lv_iconst (v := 0) hx hb dX11_story_29 (by decide) ?_
    exact W.zret (v := 0) hx hb hr (by decide) (fun t ht hW => ⟨⟨(0 : Int32), (), rfl, (lf_X11_story_3 a n1 n2 n3 c_2), bx0⟩, hS.F ht⟩) hS.2.2 dX11_story_30 hlocks
  · refine lv_iload_n hx hb dX11_story_9 rfl (lv_at hl 2 rfl) ?_
    refine lv_iconst (v := 0) hx hb dX11_story_10 (by decide) ?_
    refine lv_iconst (v := 5) hx hb dX11_story_11 (by decide) ?_
    refine eRi (va_runS (As := [.int n2, .int 0, .int 5]) (rest := []) ⟨hx, hb, hml, hown, hts⟩ (c_X11_within l D cI cB cZ cJ tx n2 0 5 H.size) (zS hts k_527 v_X11_within ⟨Nat.le_of_ble_eq_true rfl, Nat.le_of_ble_eq_true rfl⟩) (px0 hK) rfl rfl hl.1 rfl (lv_room (Nat.le_of_ble_eq_true rfl)) dX11_story_12 ⟨Nat.le_of_ble_eq_true rfl, Nat.le_of_ble_eq_true rfl⟩) hP hS hA (fun r_4 H locs wr_4 hP hS => ?_)
    subst wr_4
    refine lv_bi_eq (tgt := 29) hx hb dX11_story_15 (by decide) (fun c_5 => ?_) (fun c_5 => ?_)
    · refine lv_iconst (v := 0) hx hb dX11_story_29 (by decide) ?_
      exact W.zret (v := 0) hx hb hr (by decide) (fun t ht hW => ⟨⟨(0 : Int32), (), rfl, (lf_X11_story_6 a n1 n2 n3 c_2 c_5), bx0⟩, hS.F ht⟩) hS.2.2 dX11_story_30 hlocks
    · refine lv_iload_n hx hb dX11_story_18 rfl (lv_at hl 3 rfl) ?_
      refine lv_iconst (v := 0) hx hb dX11_story_19 (by decide) ?_
      refine lv_sipush (v := 1000) hx hb dX11_story_20 (by decide) ?_
      refine eRi (va_runS (As := [.int n3, .int 0, .int 1000]) (rest := []) ⟨hx, hb, hml, hown, hts⟩ (c_X11_within l D cI cB cZ cJ tx n3 0 1000 H.size) (zS hts k_527 v_X11_within ⟨Nat.le_of_ble_eq_true rfl, Nat.le_of_ble_eq_true rfl⟩) (px0 hK) rfl rfl hl.1 rfl (lv_room (Nat.le_of_ble_eq_true rfl)) dX11_story_23 ⟨Nat.le_of_ble_eq_true rfl, Nat.le_of_ble_eq_true rfl⟩) hP hS hA (fun r_7 H locs wr_7 hP hS => ?_)
      subst wr_7
      refine lv_bi_ne (tgt := 31) hx hb dX11_story_26 (by decide) (fun c_8 => ?_) (fun c_8 => ?_)
      · refine lv_aload_n hx hb dX11_story_31 rfl (lv_at hl 0 rfl) ?_
        refine va_get (D := D) (ci := 11) (v := .ref (a 12)) (C := RX11) (T := TX11) (N := 13) hx hb hts inT_X11 hown hK.1 hP 0 rfl rfl 11 (by decide) (hts _ k_494) (fun _ h9 => h9) rfl dX11_story_32 ?_
        refine lv_iload_n hx hb dX11_story_35 rfl (lv_at hl 1 rfl) ?_
        refine lv_iload_n hx hb dX11_story_36 rfl (lv_at hl 2 rfl) ?_
        refine lv_iload_n hx hb dX11_story_37 rfl (lv_at hl 3 rfl) ?_
        refine eWv (wr := [(a 0, .inr (11, [.ref (a 1), .ref (a 2), .ref (a 3), .ref (a 4), .ref (a 5), .ref (a 6), .ref (a 7), .ref (a 8), .ref (a 9), .ref (a 10), .ref (a 11), .ref (a 12), .int 100]))]) (va_runV (As := [.int n1, .int n2, .int n3]) (rest := []) ⟨hx, hb, hml, hown, hts⟩ (c_X7_tell l D cI cB cZ cJ tx a n1 n2 n3 (lf_X11_story_9 a n1 n2 n3 c_2 c_5 c_8) (lf_X11_story_10 a n1 n2 n3 c_2 c_5 c_8) H.size) (zV hts k_1193 v_X7_tell ⟨Nat.le_of_ble_eq_true rfl, Nat.le_of_ble_eq_true rfl⟩) (pV (pxS hK hP hD [1, 2, 3] (by decide) rfl) hK hP 1 rfl rfl) rfl rfl hl.1 rfl (lv_room (Nat.le_of_ble_eq_true rfl)) dX11_story_38 ⟨Nat.le_of_ble_eq_true rfl, Nat.le_of_ble_eq_true rfl⟩) hP hD hS hA [1, 2, 3] [0] rfl rfl (by decide) (by decide) (fun u_12 H locs wr_11 hP hD hS => ?_)
        have hP : va_P D vwCl [(a 0, .inr (11, [.ref (a 1), .ref (a 2), .ref (a 3), .ref (a 4), .ref (a 5), .ref (a 6), .ref (a 7), .ref (a 8), .ref (a 9), .ref (a 10), .ref (a 11), .ref (a 12), .int 100]))] H := hP
        have hD : va_D A [(a 0, .inr (11, [.ref (a 1), .ref (a 2), .ref (a 3), .ref (a 4), .ref (a 5), .ref (a 6), .ref (a 7), .ref (a 8), .ref (a 9), .ref (a 10), .ref (a 11), .ref (a 12), .int 100]))] := hD
        refine lv_iconst (v := 1) hx hb dX11_story_41 (by decide) ?_
        exact W.zret (v := 1) hx hb hr (by decide) (fun t ht hW => ⟨⟨(1 : Int32), (), rfl, (lf_X11_story_13 a n1 n2 n3 c_2 c_5 c_8), bx0⟩, hS.F ht⟩) hS.2.2 dX11_story_42 hlocks
      · refine lv_iconst (v := 0) hx hb dX11_story_29 (by decide) ?_
        exact W.zret (v := 0) hx hb hr (by decide) (fun t ht hW => ⟨⟨(0 : Int32), (), rfl, (lf_X11_story_14 a n1 n2 n3 c_2 c_5 c_8), bx0⟩, hS.F ht⟩) hS.2.2 dX11_story_30 hlocks

theorem lf_X11_sign_3 (a : Nat → Nat) (f : Nat → Int32) (n1 : Int32) (n2 : Int32) (c_2 : ¬ ((0 : Int32) ≤ n1 ∧ n1 ≤ 5)) : (0 : Int32) = bi ((0 ≤ n1 ∧ n1 ≤ 5) ∧ -1 ≤ n2 ∧ n2 ≤ 1) := by
  first | rfl | (simp only [bi]; rw [if_pos (by grind)]; done) | (simp only [bi]; rw [if_neg (by grind)]; done) | grind
theorem lf_X11_sign_6 (a : Nat → Nat) (f : Nat → Int32) (n1 : Int32) (n2 : Int32) (c_2 : (0 : Int32) ≤ n1 ∧ n1 ≤ 5) (c_5 : ((-1) : Int32) ≤ n2 ∧ n2 ≤ 1) : vp_in n1 6 := by
  first | (unfold vp_in; decide) | (exact vp_in1 6 (by decide) rfl ‹_›)
theorem lf_X11_sign_8 (a : Nat → Nat) (f : Nat → Int32) (n1 : Int32) (n2 : Int32) (c_2 : (0 : Int32) ≤ n1 ∧ n1 ≤ 5) (c_5 : ((-1) : Int32) ≤ n2 ∧ n2 ≤ 1) : (1 : Int32) = bi ((0 ≤ n1 ∧ n1 ≤ 5) ∧ -1 ≤ n2 ∧ n2 ≤ 1) := by
  first | rfl | (simp only [bi]; rw [if_pos (by grind)]; done) | (simp only [bi]; rw [if_neg (by grind)]; done) | grind
theorem lf_X11_sign_9 (a : Nat → Nat) (f : Nat → Int32) (n1 : Int32) (n2 : Int32) (c_2 : (0 : Int32) ≤ n1 ∧ n1 ≤ 5) (c_5 : ¬ (((-1) : Int32) ≤ n2 ∧ n2 ≤ 1)) : (0 : Int32) = bi ((0 ≤ n1 ∧ n1 ≤ 5) ∧ -1 ≤ n2 ∧ n2 ≤ 1) := by
  first | rfl | (simp only [bi]; rw [if_pos (by grind)]; done) | (simp only [bi]; rw [if_neg (by grind)]; done) | grind
set_option maxHeartbeats 4000000 in
set_option maxRecDepth 100000 in
theorem c_X11_sign (l : Launch) (D : va_G) (cI cB cZ cJ : ClassId) (tx : List (ClassId × FieldType)) (a : Nat → Nat) (f : Nat → Int32) (n1 : Int32) (n2 : Int32) : WrI l D cI cB cZ cJ tx yX11_sign cX11_sign 3 (some .boolean) 1 0 0 [.ref (a 0), .int n1, .int n2] [(a 0, .inr (11, [.ref (a 1), .ref (a 2), .ref (a 3), .ref (a 4), .ref (a 5), .ref (a 6), .ref (a 7), .ref (a 8), .ref (a 9), .ref (a 10), .ref (a 11), .ref (a 12), .int 100])), (a 12, .inr (7, [.ref (a 48), .ref (a 49), .ref (a 50)])), (a 50, .inl (cI, 6, .inl f))] (fun (r : Int32) (_ : Unit) => r = bi ((0 ≤ n1 ∧ n1 ≤ 5) ∧ -1 ≤ n2 ∧ n2 ≤ 1)) (fun _ => []) := by
  refine wri_of2 (by decide) (Nat.le_of_ble_eq_true rfl) ?_
  intro p e s m below meth c A ls H locs hC hK hP hD hA hS hl
  obtain ⟨hx, hb, hr, hml, hown, hts, hlocks, hin⟩ := hC
  have hown : s.vm.findClass RX11 = some m.cls := hown
  have hl : lv_has ls 3 [(0, .ref (a 0)), (1, .int n1), (2, .int n2)] := hl
  refine lv_iload_n hx hb dX11_sign_0 rfl (lv_at hl 1 rfl) ?_
  refine lv_iconst (v := 0) hx hb dX11_sign_1 (by decide) ?_
  refine lv_iconst (v := 5) hx hb dX11_sign_2 (by decide) ?_
  refine eRi (va_runS (As := [.int n1, .int 0, .int 5]) (rest := []) ⟨hx, hb, hml, hown, hts⟩ (c_X11_within l D cI cB cZ cJ tx n1 0 5 H.size) (zS hts k_527 v_X11_within ⟨Nat.le_of_ble_eq_true rfl, Nat.le_of_ble_eq_true rfl⟩) (px0 hK) rfl rfl hl.1 rfl (lv_room (Nat.le_of_ble_eq_true rfl)) dX11_sign_3 ⟨Nat.le_of_ble_eq_true rfl, Nat.le_of_ble_eq_true rfl⟩) hP hS hA (fun r_1 H locs wr_1 hP hS => ?_)
  subst wr_1
  refine lv_bi_eq (tgt := 18) hx hb dX11_sign_6 (by decide) (fun c_2 => ?_) (fun c_2 => ?_)
  · refine lv_iconst (v := 0) hx hb dX11_sign_18 (by decide) ?_
    exact W.zret (v := 0) hx hb hr (by decide) (fun t ht hW => ⟨⟨(0 : Int32), (), rfl, (lf_X11_sign_3 a f n1 n2 c_2), bx0⟩, hS.F ht⟩) hS.2.2 dX11_sign_19 hlocks
  · refine lv_iload_n hx hb dX11_sign_9 rfl (lv_at hl 2 rfl) ?_
    refine lv_iconst (v := (-1)) hx hb dX11_sign_10 (by decide) ?_
    refine lv_iconst (v := 1) hx hb dX11_sign_11 (by decide) ?_
    refine eRi (va_runS (As := [.int n2, .int (-1), .int 1]) (rest := []) ⟨hx, hb, hml, hown, hts⟩ (c_X11_within l D cI cB cZ cJ tx n2 (-1) 1 H.size) (zS hts k_527 v_X11_within ⟨Nat.le_of_ble_eq_true rfl, Nat.le_of_ble_eq_true rfl⟩) (px0 hK) rfl rfl hl.1 rfl (lv_room (Nat.le_of_ble_eq_true rfl)) dX11_sign_12 ⟨Nat.le_of_ble_eq_true rfl, Nat.le_of_ble_eq_true rfl⟩) hP hS hA (fun r_4 H locs wr_4 hP hS => ?_)
    subst wr_4
    refine lv_bi_ne (tgt := 20) hx hb dX11_sign_15 (by decide) (fun c_5 => ?_) (fun c_5 => ?_)
    · refine lv_aload_n hx hb dX11_sign_20 rfl (lv_at hl 0 rfl) ?_
      refine va_get (D := D) (ci := 11) (v := .ref (a 12)) (C := RX11) (T := TX11) (N := 13) hx hb hts inT_X11 hown hK.1 hP 0 rfl rfl 11 (by decide) (hts _ k_494) (fun _ h9 => h9) rfl dX11_sign_21 ?_
      refine va_getN (D := D) (ci := 7) (v := .ref (a 50)) (C := RX7) (T := TX7) (N := 3) hx hb hts inT_X7 hown hK.1 hP 1 rfl rfl 2 (by decide) (va_Nw.use rfl (hK.2.2.1 _ n_475)) (fun _ h9 => h9) rfl dX11_sign_24 ?_
      refine lv_iload_n hx hb dX11_sign_27 rfl (lv_at hl 1 rfl) ?_
      refine lv_iload_n hx hb dX11_sign_28 rfl (lv_at hl 2 rfl) ?_
      refine st_i hx hb hK hP hD hS 2 rfl (lf_X11_sign_6 a f n1 n2 c_2 c_5) dX11_sign_29 (fun f_7 H locs hP hD hS => ?_)
      have hP : va_P D vwCl [(a 0, .inr (11, [.ref (a 1), .ref (a 2), .ref (a 3), .ref (a 4), .ref (a 5), .ref (a 6), .ref (a 7), .ref (a 8), .ref (a 9), .ref (a 10), .ref (a 11), .ref (a 12), .int 100])), (a 12, .inr (7, [.ref (a 48), .ref (a 49), .ref (a 50)])), (a 50, .inl (cI, 6, .inl f_7))] H := hP
      have hD : va_D A [(a 0, .inr (11, [.ref (a 1), .ref (a 2), .ref (a 3), .ref (a 4), .ref (a 5), .ref (a 6), .ref (a 7), .ref (a 8), .ref (a 9), .ref (a 10), .ref (a 11), .ref (a 12), .int 100])), (a 12, .inr (7, [.ref (a 48), .ref (a 49), .ref (a 50)])), (a 50, .inl (cI, 6, .inl f_7))] := hD
      refine lv_iconst (v := 1) hx hb dX11_sign_30 (by decide) ?_
      exact W.zret (v := 1) hx hb hr (by decide) (fun t ht hW => ⟨⟨(1 : Int32), (), rfl, (lf_X11_sign_8 a f n1 n2 c_2 c_5), bx0⟩, hS.F ht⟩) hS.2.2 dX11_sign_31 hlocks
    · refine lv_iconst (v := 0) hx hb dX11_sign_18 (by decide) ?_
      exact W.zret (v := 0) hx hb hr (by decide) (fun t ht hW => ⟨⟨(0 : Int32), (), rfl, (lf_X11_sign_9 a f n1 n2 c_2 c_5), bx0⟩, hS.F ht⟩) hS.2.2 dX11_sign_19 hlocks

theorem lf_X11_odds_4 (a : Nat → Nat) (n1 : Int32) (c_1 : ¬ n1 = (-1)) (c_3 : ¬ ((0 : Int32) ≤ n1 ∧ n1 ≤ 5)) : ((-1) : Int64) = (if n1 = -1 then 0 else -1) := by
  first | (rw [if_pos ‹_›]; done) | (rw [if_neg ‹_›]; done) | grind
theorem lf_X11_odds_5 (a : Nat → Nat) (n1 : Int32) (c_1 : ¬ n1 = (-1)) (c_3 : (0 : Int32) ≤ n1 ∧ n1 ≤ 5) : vp_in n1 6 := by
  first | (unfold vp_in; decide) | (exact vp_in1 6 (by decide) rfl ‹_›)
theorem lf_X11_odds_6 (a : Nat → Nat) (n1 : Int32) (c_1 : ¬ n1 = (-1)) (c_3 : (0 : Int32) ≤ n1 ∧ n1 ≤ 5) : ((-1) : Int64) = (if n1 = -1 then 0 else -1) := by
  first | (rw [if_pos ‹_›]; done) | (rw [if_neg ‹_›]; done) | grind
theorem lf_X11_odds_8 (a : Nat → Nat) (n1 : Int32) (c_1 : n1 = (-1)) : (0 : Int64) = (if n1 = -1 then 0 else -1) := by
  first | (rw [if_pos ‹_›]; done) | (rw [if_neg ‹_›]; done) | grind
set_option maxHeartbeats 4000000 in
set_option maxRecDepth 100000 in
theorem c_X11_odds (l : Launch) (D : va_G) (cI cB cZ cJ : ClassId) (tx : List (ClassId × FieldType)) (a : Nat → Nat) (n1 : Int32) : WrL l D cI cB cZ cJ tx yX11_odds cX11_odds 2 (some .long) 1 0 0 [.ref (a 0), .int n1] [(a 0, .inr (11, [.ref (a 1), .ref (a 2), .ref (a 3), .ref (a 4), .ref (a 5), .ref (a 6), .ref (a 7), .ref (a 8), .ref (a 9), .ref (a 10), .ref (a 11), .ref (a 12), .int 100])), (a 12, .inr (7, [.ref (a 48), .ref (a 49), .ref (a 50)])), (a 49, .inl (cZ, 6, .inl (fun _ => 0)))] (fun (r : Int64) (_ : Unit) => r = (if n1 = -1 then 0 else -1)) (fun _ => []) := by
  refine wrl_of2 (by decide) (Nat.le_of_ble_eq_true rfl) ?_
  intro p e s m below meth c A ls H locs hC hK hP hD hA hS hl
  obtain ⟨hx, hb, hr, hml, hown, hts, hlocks, hin⟩ := hC
  have hown : s.vm.findClass RX11 = some m.cls := hown
  have hl : lv_has ls 2 [(0, .ref (a 0)), (1, .int n1)] := hl
  refine lv_iload_n hx hb dX11_odds_0 rfl (lv_at hl 1 rfl) ?_
  refine lv_iconst (v := (-1)) hx hb dX11_odds_1 (by decide) ?_
  refine lv_icmp_ne (tgt := 13) hx hb dX11_odds_2 (by decide) (fun c_1 => ?_) (fun c_1 => ?_)
  · refine lv_iload_n hx hb dX11_odds_13 rfl (lv_at hl 1 rfl) ?_
    refine lv_iconst (v := 0) hx hb dX11_odds_14 (by decide) ?_
    refine lv_iconst (v := 5) hx hb dX11_odds_15 (by decide) ?_
    refine eRi (va_runS (As := [.int n1, .int 0, .int 5]) (rest := []) ⟨hx, hb, hml, hown, hts⟩ (c_X11_within l D cI cB cZ cJ tx n1 0 5 H.size) (zS hts k_527 v_X11_within ⟨Nat.le_of_ble_eq_true rfl, Nat.le_of_ble_eq_true rfl⟩) (px0 hK) rfl rfl hl.1 rfl (lv_room (Nat.le_of_ble_eq_true rfl)) dX11_odds_16 ⟨Nat.le_of_ble_eq_true rfl, Nat.le_of_ble_eq_true rfl⟩) hP hS hA (fun r_2 H locs wr_2 hP hS => ?_)
    subst wr_2
    refine lv_bi_eq (tgt := 34) hx hb dX11_odds_19 (by decide) (fun c_3 => ?_) (fun c_3 => ?_)
    · refine lv_ldc2 (v := (-1)) hx hb hown (hts _ k_1074) dX11_odds_34 ?_
      exact W.lret (v := (-1)) hx hb hr (fun t ht hW => ⟨⟨((-1) : Int64), (), rfl, (lf_X11_odds_4 a n1 c_1 c_3), bx0⟩, hS.F ht⟩) hS.2.2 dX11_odds_37 hlocks
    · refine lv_aload_n hx hb dX11_odds_22 rfl (lv_at hl 0 rfl) ?_
      refine va_get (D := D) (ci := 11) (v := .ref (a 12)) (C := RX11) (T := TX11) (N := 13) hx hb hts inT_X11 hown hK.1 hP 0 rfl rfl 11 (by decide) (hts _ k_494) (fun _ h9 => h9) rfl dX11_odds_23 ?_
      refine va_getN (D := D) (ci := 7) (v := .ref (a 49)) (C := RX7) (T := TX7) (N := 3) hx hb hts inT_X7 hown hK.1 hP 1 rfl rfl 1 (by decide) (va_Nw.use rfl (hK.2.2.1 _ n_473)) (fun _ h9 => h9) rfl dX11_odds_26 ?_
      refine lv_iload_n hx hb dX11_odds_29 rfl (lv_at hl 1 rfl) ?_
      refine l0_z hx hb hK hP 2 rfl (lf_X11_odds_5 a n1 c_1 c_3) dX11_odds_30 ?_
      refine lv_if_ne (tgt := 38) hx hb dX11_odds_31 (by decide) (fun c => absurd c (by decide)) (fun _ => ?_)
      refine lv_ldc2 (v := (-1)) hx hb hown (hts _ k_1074) dX11_odds_34 ?_
      exact W.lret (v := (-1)) hx hb hr (fun t ht hW => ⟨⟨((-1) : Int64), (), rfl, (lf_X11_odds_6 a n1 c_1 c_3), bx0⟩, hS.F ht⟩) hS.2.2 dX11_odds_37 hlocks
  · refine lv_aload_n hx hb dX11_odds_5 rfl (lv_at hl 0 rfl) ?_
    refine va_get (D := D) (ci := 11) (v := .ref (a 12)) (C := RX11) (T := TX11) (N := 13) hx hb hts inT_X11 hown hK.1 hP 0 rfl rfl 11 (by decide) (hts _ k_494) (fun _ h9 => h9) rfl dX11_odds_6 ?_
    refine eRl (va_runV (As := []) (rest := []) ⟨hx, hb, hml, hown, hts⟩ (c_X7_together l D cI cB cZ cJ tx a H.size) (zV hts k_1205 v_X7_together ⟨Nat.le_of_ble_eq_true rfl, Nat.le_of_ble_eq_true rfl⟩) (pV (pxS hK hP hD [1, 2] (by decide) rfl) hK hP 1 rfl rfl) rfl rfl hl.1 rfl (lv_room (Nat.le_of_ble_eq_true rfl)) dX11_odds_9 ⟨Nat.le_of_ble_eq_true rfl, Nat.le_of_ble_eq_true rfl⟩) hP hS hA (fun r_7 H locs wr_7 hP hS => ?_)
    subst wr_7
    exact W.lret (v := 0) hx hb hr (fun t ht hW => ⟨⟨(0 : Int64), (), rfl, (lf_X11_odds_8 a n1 c_1), bx0⟩, hS.F ht⟩) hS.2.2 dX11_odds_12 hlocks

theorem lf_X11_next_3 (a : Nat → Nat) (n1 : Int32) (c_2 : ¬ ((0 : Int32) ≤ n1 ∧ n1 ≤ 1)) : ((-1) : Int32) = -1 := by
  first | rfl | (simp only [bi]; rw [if_pos (by grind)]; done) | (simp only [bi]; rw [if_neg (by grind)]; done) | grind
theorem lf_X11_next_5 (a : Nat → Nat) (n1 : Int32) (c_2 : (0 : Int32) ≤ n1 ∧ n1 ≤ 1) : ((-1) : Int32) = -1 := by
  first | rfl | (simp only [bi]; rw [if_pos (by grind)]; done) | (simp only [bi]; rw [if_neg (by grind)]; done) | grind
set_option maxHeartbeats 4000000 in
set_option maxRecDepth 100000 in
theorem c_X11_next (l : Launch) (D : va_G) (cI cB cZ cJ : ClassId) (tx : List (ClassId × FieldType)) (a : Nat → Nat) (n1 : Int32) : WrI l D cI cB cZ cJ tx yX11_next cX11_next 3 (some .int) 1 0 0 [.ref (a 0), .int n1] [(a 0, .inr (11, [.ref (a 1), .ref (a 2), .ref (a 3), .ref (a 4), .ref (a 5), .ref (a 6), .ref (a 7), .ref (a 8), .ref (a 9), .ref (a 10), .ref (a 11), .ref (a 12), .int 100])), (a 12, .inr (7, [.ref (a 48), .ref (a 49), .ref (a 50)])), (a 49, .inl (cZ, 6, .inl (fun _ => 0)))] (fun (r : Int32) (_ : Unit) => r = -1) (fun _ => []) := by
  refine wri_of2 (by decide) (Nat.le_of_ble_eq_true rfl) ?_
  intro p e s m below meth c A ls H locs hC hK hP hD hA hS hl
  obtain ⟨hx, hb, hr, hml, hown, hts, hlocks, hin⟩ := hC
  have hown : s.vm.findClass RX11 = some m.cls := hown
  have hl : lv_has ls 3 [(0, .ref (a 0)), (1, .int n1)] := hl
  refine lv_iload_n hx hb dX11_next_0 rfl (lv_at hl 1 rfl) ?_
  refine lv_iconst (v := 0) hx hb dX11_next_1 (by decide) ?_
  refine lv_iconst (v := 1) hx hb dX11_next_2 (by decide) ?_
  refine eRi (va_runS (As := [.int n1, .int 0, .int 1]) (rest := []) ⟨hx, hb, hml, hown, hts⟩ (c_X11_within l D cI cB cZ cJ tx n1 0 1 H.size) (zS hts k_527 v_X11_within ⟨Nat.le_of_ble_eq_true rfl, Nat.le_of_ble_eq_true rfl⟩) (px0 hK) rfl rfl hl.1 rfl (lv_room (Nat.le_of_ble_eq_true rfl)) dX11_next_3 ⟨Nat.le_of_ble_eq_true rfl, Nat.le_of_ble_eq_true rfl⟩) hP hS hA (fun r_1 H locs wr_1 hP hS => ?_)
  subst wr_1
  refine lv_bi_eq (tgt := 19) hx hb dX11_next_6 (by decide) (fun c_2 => ?_) (fun c_2 => ?_)
  · refine lv_iconst (v := (-1)) hx hb dX11_next_19 (by decide) ?_
    exact W.iret (v := (-1)) hx hb hr (fun t ht hW => ⟨⟨((-1) : Int32), (), rfl, (lf_X11_next_3 a n1 c_2), bx0⟩, hS.F ht⟩) hS.2.2 dX11_next_20 hlocks
  · refine lv_aload_n hx hb dX11_next_9 rfl (lv_at hl 0 rfl) ?_
    refine va_get (D := D) (ci := 11) (v := .ref (a 12)) (C := RX11) (T := TX11) (N := 13) hx hb hts inT_X11 hown hK.1 hP 0 rfl rfl 11 (by decide) (hts _ k_494) (fun _ h9 => h9) rfl dX11_next_10 ?_
    refine eRi (va_runV (As := []) (rest := []) ⟨hx, hb, hml, hown, hts⟩ (c_X7_told l D cI cB cZ cJ tx a H.size) (zV hts k_1218 v_X7_told ⟨Nat.le_of_ble_eq_true rfl, Nat.le_of_ble_eq_true rfl⟩) (pV (pxS hK hP hD [1, 2] (by decide) rfl) hK hP 1 rfl rfl) rfl rfl hl.1 rfl (lv_room (Nat.le_of_ble_eq_true rfl)) dX11_next_13 ⟨Nat.le_of_ble_eq_true rfl, Nat.le_of_ble_eq_true rfl⟩) hP hS hA (fun r_4 H locs wr_4 hP hS => ?_)
    subst wr_4
    refine lv_if_ne (tgt := 21) hx hb dX11_next_16 (by decide) (fun c => absurd c (by decide)) (fun _ => ?_)
    refine lv_iconst (v := (-1)) hx hb dX11_next_19 (by decide) ?_
    exact W.iret (v := (-1)) hx hb hr (fun t ht hW => ⟨⟨((-1) : Int32), (), rfl, (lf_X11_next_5 a n1 c_2), bx0⟩, hS.F ht⟩) hS.2.2 dX11_next_20 hlocks

theorem lf_X11_area_2 (a : Nat → Nat) (n1 : Int32) (n2 : Int32) (n3 : Int32) (n4 : Int32) : ((-1) : Int64) = -1 := by
  first | rfl | (simp only [bi]; rw [if_pos (by grind)]; done) | (simp only [bi]; rw [if_neg (by grind)]; done) | grind
set_option maxHeartbeats 4000000 in
set_option maxRecDepth 100000 in
theorem c_X11_area (l : Launch) (D : va_G) (cI cB cZ cJ : ClassId) (tx : List (ClassId × FieldType)) (a : Nat → Nat) (n1 : Int32) (n2 : Int32) (n3 : Int32) (n4 : Int32) : WrL l D cI cB cZ cJ tx yX11_area cX11_area 5 (some .long) 1 0 0 [.ref (a 0), .int n1, .int n2, .int n3, .int n4] [(a 0, .inr (11, [.ref (a 1), .ref (a 2), .ref (a 3), .ref (a 4), .ref (a 5), .ref (a 6), .ref (a 7), .ref (a 8), .ref (a 9), .ref (a 10), .ref (a 11), .ref (a 12), .int 100])), (a 5, .inr (4, [.ref (a 18), .ref (a 19), .ref (a 20), .ref (a 21), .ref (a 22), .ref (a 23), .ref (a 24), .int 0, .int 0, .int 0, .int 1]))] (fun (r : Int64) (_ : Unit) => r = -1) (fun _ => []) := by
  refine wrl_of2 (by decide) (Nat.le_of_ble_eq_true rfl) ?_
  intro p e s m below meth c A ls H locs hC hK hP hD hA hS hl
  obtain ⟨hx, hb, hr, hml, hown, hts, hlocks, hin⟩ := hC
  have hown : s.vm.findClass RX11 = some m.cls := hown
  have hl : lv_has ls 5 [(0, .ref (a 0)), (1, .int n1), (2, .int n2), (3, .int n3), (4, .int n4)] := hl
  refine lv_iload_n hx hb dX11_area_0 rfl (lv_at hl 1 rfl) ?_
  refine lv_iconst (v := 0) hx hb dX11_area_1 (by decide) ?_
  refine lv_aload_n hx hb dX11_area_2 rfl (lv_at hl 0 rfl) ?_
  refine va_get (D := D) (ci := 11) (v := .ref (a 5)) (C := RX11) (T := TX11) (N := 13) hx hb hts inT_X11 hown hK.1 hP 0 rfl rfl 4 (by decide) (hts _ k_487) (fun _ h9 => h9) rfl dX11_area_3 ?_
  refine va_getN (D := D) (ci := 4) (v := .int 0) (C := RX4) (T := TX4) (N := 11) hx hb hts inT_X4 hown hK.1 hP 1 rfl rfl 7 (by decide) (va_Nw.use rfl (hK.2.2.1 _ n_254)) (fun _ h9 => h9) rfl dX11_area_6 ?_
  refine lv_iconst (v := 1) hx hb dX11_area_9 (by decide) ?_
  refine lv_isub hx hb dX11_area_10 ?_
  refine lv_topv (y := (-1)) (by decide) ?_
  refine eRi (va_runS (As := [.int n1, .int 0, .int (-1)]) (rest := []) ⟨hx, hb, hml, hown, hts⟩ (c_X11_within l D cI cB cZ cJ tx n1 0 (-1) H.size) (zS hts k_527 v_X11_within ⟨Nat.le_of_ble_eq_true rfl, Nat.le_of_ble_eq_true rfl⟩) (px0 hK) rfl rfl hl.1 rfl (lv_room (Nat.le_of_ble_eq_true rfl)) dX11_area_11 ⟨Nat.le_of_ble_eq_true rfl, Nat.le_of_ble_eq_true rfl⟩) hP hS hA (fun r_1 H locs wr_1 hP hS => ?_)
  subst wr_1
  refine lv_topv (y := 0) (bi_no (by decide)) ?_
  refine lv_if_eq (tgt := 66) hx hb dX11_area_14 (by decide) (fun _ => ?_) (fun c => absurd c (by decide))
  refine lv_ldc2 (v := (-1)) hx hb hown (hts _ k_1074) dX11_area_66 ?_
  exact W.lret (v := (-1)) hx hb hr (fun t ht hW => ⟨⟨((-1) : Int64), (), rfl, (lf_X11_area_2 a n1 n2 n3 n4), bx0⟩, hS.F ht⟩) hS.2.2 dX11_area_69 hlocks

theorem lf_X11_volume_2 (a : Nat → Nat) (n1 : Int32) (n2 : Int32) (n3 : Int32) : ((-1) : Int64) = -1 := by
  first | rfl | (simp only [bi]; rw [if_pos (by grind)]; done) | (simp only [bi]; rw [if_neg (by grind)]; done) | grind
set_option maxHeartbeats 4000000 in
set_option maxRecDepth 100000 in
theorem c_X11_volume (l : Launch) (D : va_G) (cI cB cZ cJ : ClassId) (tx : List (ClassId × FieldType)) (a : Nat → Nat) (n1 : Int32) (n2 : Int32) (n3 : Int32) : WrL l D cI cB cZ cJ tx yX11_volume cX11_volume 4 (some .long) 1 0 0 [.ref (a 0), .int n1, .int n2, .int n3] [(a 0, .inr (11, [.ref (a 1), .ref (a 2), .ref (a 3), .ref (a 4), .ref (a 5), .ref (a 6), .ref (a 7), .ref (a 8), .ref (a 9), .ref (a 10), .ref (a 11), .ref (a 12), .int 100])), (a 5, .inr (4, [.ref (a 18), .ref (a 19), .ref (a 20), .ref (a 21), .ref (a 22), .ref (a 23), .ref (a 24), .int 0, .int 0, .int 0, .int 1]))] (fun (r : Int64) (_ : Unit) => r = -1) (fun _ => []) := by
  refine wrl_of2 (by decide) (Nat.le_of_ble_eq_true rfl) ?_
  intro p e s m below meth c A ls H locs hC hK hP hD hA hS hl
  obtain ⟨hx, hb, hr, hml, hown, hts, hlocks, hin⟩ := hC
  have hown : s.vm.findClass RX11 = some m.cls := hown
  have hl : lv_has ls 4 [(0, .ref (a 0)), (1, .int n1), (2, .int n2), (3, .int n3)] := hl
  refine lv_iload_n hx hb dX11_volume_0 rfl (lv_at hl 3 rfl) ?_
  refine lv_iconst (v := 0) hx hb dX11_volume_1 (by decide) ?_
  refine lv_aload_n hx hb dX11_volume_2 rfl (lv_at hl 0 rfl) ?_
  refine va_get (D := D) (ci := 11) (v := .ref (a 5)) (C := RX11) (T := TX11) (N := 13) hx hb hts inT_X11 hown hK.1 hP 0 rfl rfl 4 (by decide) (hts _ k_487) (fun _ h9 => h9) rfl dX11_volume_3 ?_
  refine va_getN (D := D) (ci := 4) (v := .int 0) (C := RX4) (T := TX4) (N := 11) hx hb hts inT_X4 hown hK.1 hP 1 rfl rfl 8 (by decide) (va_Nw.use rfl (hK.2.2.1 _ n_260)) (fun _ h9 => h9) rfl dX11_volume_6 ?_
  refine lv_iconst (v := 1) hx hb dX11_volume_9 (by decide) ?_
  refine lv_isub hx hb dX11_volume_10 ?_
  refine lv_topv (y := (-1)) (by decide) ?_
  refine eRi (va_runS (As := [.int n3, .int 0, .int (-1)]) (rest := []) ⟨hx, hb, hml, hown, hts⟩ (c_X11_within l D cI cB cZ cJ tx n3 0 (-1) H.size) (zS hts k_527 v_X11_within ⟨Nat.le_of_ble_eq_true rfl, Nat.le_of_ble_eq_true rfl⟩) (px0 hK) rfl rfl hl.1 rfl (lv_room (Nat.le_of_ble_eq_true rfl)) dX11_volume_11 ⟨Nat.le_of_ble_eq_true rfl, Nat.le_of_ble_eq_true rfl⟩) hP hS hA (fun r_1 H locs wr_1 hP hS => ?_)
  subst wr_1
  refine lv_topv (y := 0) (bi_no (by decide)) ?_
  refine lv_if_eq (tgt := 48) hx hb dX11_volume_14 (by decide) (fun _ => ?_) (fun c => absurd c (by decide))
  refine lv_ldc2 (v := (-1)) hx hb hown (hts _ k_1074) dX11_volume_48 ?_
  exact W.lret (v := (-1)) hx hb hr (fun t ht hW => ⟨⟨((-1) : Int64), (), rfl, (lf_X11_volume_2 a n1 n2 n3), bx0⟩, hS.F ht⟩) hS.2.2 dX11_volume_51 hlocks

theorem lf_X11_depth_3 (a : Nat → Nat) (n1 : Int32) (n2 : Int32) (n3 : Int32) (c_2 : ¬ ((0 : Int32) ≤ n3 ∧ n3 ≤ 2000000000)) : ((-1) : Int32) = -1 := by
  first | rfl | (simp only [bi]; rw [if_pos (by grind)]; done) | (simp only [bi]; rw [if_neg (by grind)]; done) | grind
theorem lf_X11_depth_6 (a : Nat → Nat) (n1 : Int32) (n2 : Int32) (n3 : Int32) (c_2 : (0 : Int32) ≤ n3 ∧ n3 ≤ 2000000000) (c_5 : ¬ ((1 : Int32) ≤ n1 ∧ n1 ≤ 200)) : ((-1) : Int32) = -1 := by
  first | rfl | (simp only [bi]; rw [if_pos (by grind)]; done) | (simp only [bi]; rw [if_neg (by grind)]; done) | grind
theorem lf_X11_depth_8 (a : Nat → Nat) (n1 : Int32) (n2 : Int32) (n3 : Int32) (c_2 : (0 : Int32) ≤ n3 ∧ n3 ≤ 2000000000) (c_5 : (1 : Int32) ≤ n1 ∧ n1 ≤ 200) : ((-1) : Int32) = -1 := by
  first | rfl | (simp only [bi]; rw [if_pos (by grind)]; done) | (simp only [bi]; rw [if_neg (by grind)]; done) | grind
set_option maxHeartbeats 4000000 in
set_option maxRecDepth 100000 in
theorem c_X11_depth (l : Launch) (D : va_G) (cI cB cZ cJ : ClassId) (tx : List (ClassId × FieldType)) (a : Nat → Nat) (n1 : Int32) (n2 : Int32) (n3 : Int32) : WrI l D cI cB cZ cJ tx yX11_depth cX11_depth 4 (some .int) 2 0 0 [.ref (a 0), .int n1, .int n2, .int n3] [(a 0, .inr (11, [.ref (a 1), .ref (a 2), .ref (a 3), .ref (a 4), .ref (a 5), .ref (a 6), .ref (a 7), .ref (a 8), .ref (a 9), .ref (a 10), .ref (a 11), .ref (a 12), .int 100])), (a 5, .inr (4, [.ref (a 18), .ref (a 19), .ref (a 20), .ref (a 21), .ref (a 22), .ref (a 23), .ref (a 24), .int 0, .int 0, .int 0, .int 1])), (a 8, .inr (1, [.ref (a 5), .ref (a 7), .ref (a 41), .ref (a 42), .ref (a 43), .ref (a 44), .int 0]))] (fun (r : Int32) (_ : Unit) => r = -1) (fun _ => []) := by
  refine wri_of2 (by decide) (Nat.le_of_ble_eq_true rfl) ?_
  intro p e s m below meth c A ls H locs hC hK hP hD hA hS hl
  obtain ⟨hx, hb, hr, hml, hown, hts, hlocks, hin⟩ := hC
  have hown : s.vm.findClass RX11 = some m.cls := hown
  have hl : lv_has ls 4 [(0, .ref (a 0)), (1, .int n1), (2, .int n2), (3, .int n3)] := hl
  refine lv_iload_n hx hb dX11_depth_0 rfl (lv_at hl 3 rfl) ?_
  refine lv_iconst (v := 0) hx hb dX11_depth_1 (by decide) ?_
  refine lv_ldcw (v := 2000000000) hx hb hown (hts _ k_1270) dX11_depth_2 ?_
  refine eRi (va_runS (As := [.int n3, .int 0, .int 2000000000]) (rest := []) ⟨hx, hb, hml, hown, hts⟩ (c_X11_within l D cI cB cZ cJ tx n3 0 2000000000 H.size) (zS hts k_527 v_X11_within ⟨Nat.le_of_ble_eq_true rfl, Nat.le_of_ble_eq_true rfl⟩) (px0 hK) rfl rfl hl.1 rfl (lv_room (Nat.le_of_ble_eq_true rfl)) dX11_depth_5 ⟨Nat.le_of_ble_eq_true rfl, Nat.le_of_ble_eq_true rfl⟩) hP hS hA (fun r_1 H locs wr_1 hP hS => ?_)
  subst wr_1
  refine lv_bi_eq (tgt := 42) hx hb dX11_depth_8 (by decide) (fun c_2 => ?_) (fun c_2 => ?_)
  · refine lv_iconst (v := (-1)) hx hb dX11_depth_42 (by decide) ?_
    exact W.iret (v := (-1)) hx hb hr (fun t ht hW => ⟨⟨((-1) : Int32), (), rfl, (lf_X11_depth_3 a n1 n2 n3 c_2), bx0⟩, hS.F ht⟩) hS.2.2 dX11_depth_43 hlocks
  · refine lv_iload_n hx hb dX11_depth_11 rfl (lv_at hl 1 rfl) ?_
    refine lv_iconst (v := 1) hx hb dX11_depth_12 (by decide) ?_
    refine lv_sipush (v := 200) hx hb dX11_depth_13 (by decide) ?_
    refine eRi (va_runS (As := [.int n1, .int 1, .int 200]) (rest := []) ⟨hx, hb, hml, hown, hts⟩ (c_X11_within l D cI cB cZ cJ tx n1 1 200 H.size) (zS hts k_527 v_X11_within ⟨Nat.le_of_ble_eq_true rfl, Nat.le_of_ble_eq_true rfl⟩) (px0 hK) rfl rfl hl.1 rfl (lv_room (Nat.le_of_ble_eq_true rfl)) dX11_depth_16 ⟨Nat.le_of_ble_eq_true rfl, Nat.le_of_ble_eq_true rfl⟩) hP hS hA (fun r_4 H locs wr_4 hP hS => ?_)
    subst wr_4
    refine lv_bi_eq (tgt := 42) hx hb dX11_depth_19 (by decide) (fun c_5 => ?_) (fun c_5 => ?_)
    · refine lv_iconst (v := (-1)) hx hb dX11_depth_42 (by decide) ?_
      exact W.iret (v := (-1)) hx hb hr (fun t ht hW => ⟨⟨((-1) : Int32), (), rfl, (lf_X11_depth_6 a n1 n2 n3 c_2 c_5), bx0⟩, hS.F ht⟩) hS.2.2 dX11_depth_43 hlocks
    · refine lv_aload_n hx hb dX11_depth_22 rfl (lv_at hl 0 rfl) ?_
      refine va_get (D := D) (ci := 11) (v := .ref (a 8)) (C := RX11) (T := TX11) (N := 13) hx hb hts inT_X11 hown hK.1 hP 0 rfl rfl 7 (by decide) (hts _ k_490) (fun _ h9 => h9) rfl dX11_depth_23 ?_
      refine lv_aload_n hx hb dX11_depth_26 rfl (lv_at hl 0 rfl) ?_
      refine va_get (D := D) (ci := 11) (v := .ref (a 5)) (C := RX11) (T := TX11) (N := 13) hx hb hts inT_X11 hown hK.1 hP 0 rfl rfl 4 (by decide) (hts _ k_487) (fun _ h9 => h9) rfl dX11_depth_27 ?_
      refine va_getN (D := D) (ci := 4) (v := .int 0) (C := RX4) (T := TX4) (N := 11) hx hb hts inT_X4 hown hK.1 hP 1 rfl rfl 8 (by decide) (va_Nw.use rfl (hK.2.2.1 _ n_260)) (fun _ h9 => h9) rfl dX11_depth_30 ?_
      refine lv_iconst (v := 1) hx hb dX11_depth_33 (by decide) ?_
      refine lv_isub hx hb dX11_depth_34 ?_
      refine lv_topv (y := (-1)) (by decide) ?_
      refine lv_iload_n hx hb dX11_depth_35 rfl (lv_at hl 2 rfl) ?_
      refine eRi (va_runV (As := [.int (-1), .int n2]) (rest := []) ⟨hx, hb, hml, hown, hts⟩ (c_X1_isToldUpTo l D cI cB cZ cJ tx a (-1) n2 H.size) (zV hts k_1240 v_X1_isToldUpTo ⟨Nat.le_of_ble_eq_true rfl, Nat.le_of_ble_eq_true rfl⟩) (pV (pxS hK hP hD [2, 1] (by decide) rfl) hK hP 2 rfl rfl) rfl rfl hl.1 rfl (lv_room (Nat.le_of_ble_eq_true rfl)) dX11_depth_36 ⟨Nat.le_of_ble_eq_true rfl, Nat.le_of_ble_eq_true rfl⟩) hP hS hA (fun r_7 H locs wr_7 hP hS => ?_)
      subst wr_7
      refine lv_if_ne (tgt := 44) hx hb dX11_depth_39 (by decide) (fun c => absurd c (by decide)) (fun _ => ?_)
      refine lv_iconst (v := (-1)) hx hb dX11_depth_42 (by decide) ?_
      exact W.iret (v := (-1)) hx hb hr (fun t ht hW => ⟨⟨((-1) : Int32), (), rfl, (lf_X11_depth_8 a n1 n2 n3 c_2 c_5), bx0⟩, hS.F ht⟩) hS.2.2 dX11_depth_43 hlocks

theorem lf_X11_pace_3 (a : Nat → Nat) (n1 : Int32) (c_2 : ¬ ((1 : Int32) ≤ n1 ∧ n1 ≤ 1000)) : ((-1) : Int32) = -1 := by
  first | rfl | (simp only [bi]; rw [if_pos (by grind)]; done) | (simp only [bi]; rw [if_neg (by grind)]; done) | grind
theorem lf_X11_pace_5 (a : Nat → Nat) (n1 : Int32) (c_2 : (1 : Int32) ≤ n1 ∧ n1 ≤ 1000) : ((-1) : Int32) = -1 := by
  first | rfl | (simp only [bi]; rw [if_pos (by grind)]; done) | (simp only [bi]; rw [if_neg (by grind)]; done) | grind
set_option maxHeartbeats 4000000 in
set_option maxRecDepth 100000 in
theorem c_X11_pace (l : Launch) (D : va_G) (cI cB cZ cJ : ClassId) (tx : List (ClassId × FieldType)) (a : Nat → Nat) (n1 : Int32) : WrI l D cI cB cZ cJ tx yX11_pace cX11_pace 2 (some .int) 1 0 0 [.ref (a 0), .int n1] [(a 0, .inr (11, [.ref (a 1), .ref (a 2), .ref (a 3), .ref (a 4), .ref (a 5), .ref (a 6), .ref (a 7), .ref (a 8), .ref (a 9), .ref (a 10), .ref (a 11), .ref (a 12), .int 100])), (a 5, .inr (4, [.ref (a 18), .ref (a 19), .ref (a 20), .ref (a 21), .ref (a 22), .ref (a 23), .ref (a 24), .int 0, .int 0, .int 0, .int 1]))] (fun (r : Int32) (_ : Unit) => r = -1) (fun _ => []) := by
  refine wri_of2 (by decide) (Nat.le_of_ble_eq_true rfl) ?_
  intro p e s m below meth c A ls H locs hC hK hP hD hA hS hl
  obtain ⟨hx, hb, hr, hml, hown, hts, hlocks, hin⟩ := hC
  have hown : s.vm.findClass RX11 = some m.cls := hown
  have hl : lv_has ls 2 [(0, .ref (a 0)), (1, .int n1)] := hl
  refine lv_iload_n hx hb dX11_pace_0 rfl (lv_at hl 1 rfl) ?_
  refine lv_iconst (v := 1) hx hb dX11_pace_1 (by decide) ?_
  refine lv_sipush (v := 1000) hx hb dX11_pace_2 (by decide) ?_
  refine eRi (va_runS (As := [.int n1, .int 1, .int 1000]) (rest := []) ⟨hx, hb, hml, hown, hts⟩ (c_X11_within l D cI cB cZ cJ tx n1 1 1000 H.size) (zS hts k_527 v_X11_within ⟨Nat.le_of_ble_eq_true rfl, Nat.le_of_ble_eq_true rfl⟩) (px0 hK) rfl rfl hl.1 rfl (lv_room (Nat.le_of_ble_eq_true rfl)) dX11_pace_5 ⟨Nat.le_of_ble_eq_true rfl, Nat.le_of_ble_eq_true rfl⟩) hP hS hA (fun r_1 H locs wr_1 hP hS => ?_)
  subst wr_1
  refine lv_bi_eq (tgt := 21) hx hb dX11_pace_8 (by decide) (fun c_2 => ?_) (fun c_2 => ?_)
  · refine lv_iconst (v := (-1)) hx hb dX11_pace_21 (by decide) ?_
    exact W.iret (v := (-1)) hx hb hr (fun t ht hW => ⟨⟨((-1) : Int32), (), rfl, (lf_X11_pace_3 a n1 c_2), bx0⟩, hS.F ht⟩) hS.2.2 dX11_pace_22 hlocks
  · refine lv_aload_n hx hb dX11_pace_11 rfl (lv_at hl 0 rfl) ?_
    refine va_get (D := D) (ci := 11) (v := .ref (a 5)) (C := RX11) (T := TX11) (N := 13) hx hb hts inT_X11 hown hK.1 hP 0 rfl rfl 4 (by decide) (hts _ k_487) (fun _ h9 => h9) rfl dX11_pace_12 ?_
    refine eRi (va_runV (As := []) (rest := []) ⟨hx, hb, hml, hown, hts⟩ (c_X4_stands l D cI cB cZ cJ tx a H.size) (zV hts k_824 v_X4_stands ⟨Nat.le_of_ble_eq_true rfl, Nat.le_of_ble_eq_true rfl⟩) (pV (px1 hK hP 1 rfl) hK hP 1 rfl rfl) rfl rfl hl.1 rfl (lv_room (Nat.le_of_ble_eq_true rfl)) dX11_pace_15 ⟨Nat.le_of_ble_eq_true rfl, Nat.le_of_ble_eq_true rfl⟩) hP hS hA (fun r_4 H locs wr_4 hP hS => ?_)
    subst wr_4
    refine lv_if_ne (tgt := 23) hx hb dX11_pace_18 (by decide) (fun c => absurd c (by decide)) (fun _ => ?_)
    refine lv_iconst (v := (-1)) hx hb dX11_pace_21 (by decide) ?_
    exact W.iret (v := (-1)) hx hb hr (fun t ht hW => ⟨⟨((-1) : Int32), (), rfl, (lf_X11_pace_5 a n1 c_2), bx0⟩, hS.F ht⟩) hS.2.2 dX11_pace_22 hlocks

theorem lf_X11_length_2 (a : Nat → Nat) (n1 : Int32) (n2 : Int32) : ((-1) : Int32) = -1 := by
  first | rfl | (simp only [bi]; rw [if_pos (by grind)]; done) | (simp only [bi]; rw [if_neg (by grind)]; done) | grind
set_option maxHeartbeats 4000000 in
set_option maxRecDepth 100000 in
theorem c_X11_length (l : Launch) (D : va_G) (cI cB cZ cJ : ClassId) (tx : List (ClassId × FieldType)) (a : Nat → Nat) (n1 : Int32) (n2 : Int32) : WrI l D cI cB cZ cJ tx yX11_length cX11_length 3 (some .int) 2 0 0 [.ref (a 0), .int n1, .int n2] [(a 0, .inr (11, [.ref (a 1), .ref (a 2), .ref (a 3), .ref (a 4), .ref (a 5), .ref (a 6), .ref (a 7), .ref (a 8), .ref (a 9), .ref (a 10), .ref (a 11), .ref (a 12), .int 100])), (a 5, .inr (4, [.ref (a 18), .ref (a 19), .ref (a 20), .ref (a 21), .ref (a 22), .ref (a 23), .ref (a 24), .int 0, .int 0, .int 0, .int 1])), (a 7, .inr (2, [.ref (a 5), .ref (a 30), .ref (a 31), .ref (a 32), .ref (a 33), .ref (a 34), .ref (a 35), .ref (a 36), .ref (a 37), .ref (a 38), .ref (a 39), .ref (a 40)]))] (fun (r : Int32) (_ : Unit) => r = -1) (fun _ => []) := by
  refine wri_of2 (by decide) (Nat.le_of_ble_eq_true rfl) ?_
  intro p e s m below meth c A ls H locs hC hK hP hD hA hS hl
  obtain ⟨hx, hb, hr, hml, hown, hts, hlocks, hin⟩ := hC
  have hown : s.vm.findClass RX11 = some m.cls := hown
  have hl : lv_has ls 3 [(0, .ref (a 0)), (1, .int n1), (2, .int n2)] := hl
  refine lv_aload_n hx hb dX11_length_0 rfl (lv_at hl 0 rfl) ?_
  refine va_get (D := D) (ci := 11) (v := .ref (a 7)) (C := RX11) (T := TX11) (N := 13) hx hb hts inT_X11 hown hK.1 hP 0 rfl rfl 6 (by decide) (hts _ k_489) (fun _ h9 => h9) rfl dX11_length_1 ?_
  refine lv_iload_n hx hb dX11_length_4 rfl (lv_at hl 1 rfl) ?_
  refine lv_iload_n hx hb dX11_length_5 rfl (lv_at hl 2 rfl) ?_
  refine eRi (va_runV (As := [.int n1, .int n2]) (rest := []) ⟨hx, hb, hml, hown, hts⟩ (c_X2_fits l D cI cB cZ cJ tx a n1 n2 H.size) (zV hts k_1015 v_X2_fits ⟨Nat.le_of_ble_eq_true rfl, Nat.le_of_ble_eq_true rfl⟩) (pV (pxS hK hP hD [2, 1] (by decide) rfl) hK hP 2 rfl rfl) rfl rfl hl.1 rfl (lv_room (Nat.le_of_ble_eq_true rfl)) dX11_length_6 ⟨Nat.le_of_ble_eq_true rfl, Nat.le_of_ble_eq_true rfl⟩) hP hS hA (fun r_1 H locs wr_1 hP hS => ?_)
  subst wr_1
  refine lv_if_ne (tgt := 14) hx hb dX11_length_9 (by decide) (fun c => absurd c (by decide)) (fun _ => ?_)
  refine lv_iconst (v := (-1)) hx hb dX11_length_12 (by decide) ?_
  exact W.iret (v := (-1)) hx hb hr (fun t ht hW => ⟨⟨((-1) : Int32), (), rfl, (lf_X11_length_2 a n1 n2), bx0⟩, hS.F ht⟩) hS.2.2 dX11_length_13 hlocks

theorem lf_X11_joints_3 (a : Nat → Nat) (n1 : Int32) (n2 : Int32) (n3 : Int32) (n4 : Int32) (c_2 : ¬ ((1 : Int32) ≤ n3 ∧ n3 ≤ 100000)) : ((-3) : Int32) = -3 := by
  first | rfl | (simp only [bi]; rw [if_pos (by grind)]; done) | (simp only [bi]; rw [if_neg (by grind)]; done) | grind
theorem lf_X11_joints_5 (a : Nat → Nat) (n1 : Int32) (n2 : Int32) (n3 : Int32) (n4 : Int32) (c_2 : (1 : Int32) ≤ n3 ∧ n3 ≤ 100000) (c_4 : n4 < (-1)) : ((-3) : Int32) = -3 := by
  first | rfl | (simp only [bi]; rw [if_pos (by grind)]; done) | (simp only [bi]; rw [if_neg (by grind)]; done) | grind
theorem lf_X11_joints_7 (a : Nat → Nat) (n1 : Int32) (n2 : Int32) (n3 : Int32) (n4 : Int32) (c_2 : (1 : Int32) ≤ n3 ∧ n3 ≤ 100000) (c_4 : ¬ n4 < (-1)) : ((-3) : Int32) = -3 := by
  first | rfl | (simp only [bi]; rw [if_pos (by grind)]; done) | (simp only [bi]; rw [if_neg (by grind)]; done) | grind
set_option maxHeartbeats 4000000 in
set_option maxRecDepth 100000 in
theorem c_X11_joints (l : Launch) (D : va_G) (cI cB cZ cJ : ClassId) (tx : List (ClassId × FieldType)) (a : Nat → Nat) (n1 : Int32) (n2 : Int32) (n3 : Int32) (n4 : Int32) : WrI l D cI cB cZ cJ tx yX11_joints cX11_joints 5 (some .int) 2 0 0 [.ref (a 0), .int n1, .int n2, .int n3, .int n4] [(a 0, .inr (11, [.ref (a 1), .ref (a 2), .ref (a 3), .ref (a 4), .ref (a 5), .ref (a 6), .ref (a 7), .ref (a 8), .ref (a 9), .ref (a 10), .ref (a 11), .ref (a 12), .int 100])), (a 5, .inr (4, [.ref (a 18), .ref (a 19), .ref (a 20), .ref (a 21), .ref (a 22), .ref (a 23), .ref (a 24), .int 0, .int 0, .int 0, .int 1])), (a 8, .inr (1, [.ref (a 5), .ref (a 7), .ref (a 41), .ref (a 42), .ref (a 43), .ref (a 44), .int 0]))] (fun (r : Int32) (_ : Unit) => r = -3) (fun _ => []) := by
  refine wri_of2 (by decide) (Nat.le_of_ble_eq_true rfl) ?_
  intro p e s m below meth c A ls H locs hC hK hP hD hA hS hl
  obtain ⟨hx, hb, hr, hml, hown, hts, hlocks, hin⟩ := hC
  have hown : s.vm.findClass RX11 = some m.cls := hown
  have hl : lv_has ls 5 [(0, .ref (a 0)), (1, .int n1), (2, .int n2), (3, .int n3), (4, .int n4)] := hl
  refine lv_iload_n hx hb dX11_joints_0 rfl (lv_at hl 3 rfl) ?_
  refine lv_iconst (v := 1) hx hb dX11_joints_1 (by decide) ?_
  refine lv_ldcw (v := 100000) hx hb hown (hts _ k_1301) dX11_joints_2 ?_
  refine eRi (va_runS (As := [.int n3, .int 1, .int 100000]) (rest := []) ⟨hx, hb, hml, hown, hts⟩ (c_X11_within l D cI cB cZ cJ tx n3 1 100000 H.size) (zS hts k_527 v_X11_within ⟨Nat.le_of_ble_eq_true rfl, Nat.le_of_ble_eq_true rfl⟩) (px0 hK) rfl rfl hl.1 rfl (lv_room (Nat.le_of_ble_eq_true rfl)) dX11_joints_5 ⟨Nat.le_of_ble_eq_true rfl, Nat.le_of_ble_eq_true rfl⟩) hP hS hA (fun r_1 H locs wr_1 hP hS => ?_)
  subst wr_1
  refine lv_bi_eq (tgt := 29) hx hb dX11_joints_8 (by decide) (fun c_2 => ?_) (fun c_2 => ?_)
  · refine lv_bipush (v := (-3)) hx hb dX11_joints_29 (by decide) ?_
    exact W.iret (v := (-3)) hx hb hr (fun t ht hW => ⟨⟨((-3) : Int32), (), rfl, (lf_X11_joints_3 a n1 n2 n3 n4 c_2), bx0⟩, hS.F ht⟩) hS.2.2 dX11_joints_31 hlocks
  · refine lv_iload hx hb dX11_joints_11 (lv_at hl 4 rfl) ?_
    refine lv_iconst (v := (-1)) hx hb dX11_joints_13 (by decide) ?_
    refine lv_icmp_lt (tgt := 29) hx hb dX11_joints_14 (by decide) (fun c_4 => ?_) (fun c_4 => ?_)
    · refine lv_bipush (v := (-3)) hx hb dX11_joints_29 (by decide) ?_
      exact W.iret (v := (-3)) hx hb hr (fun t ht hW => ⟨⟨((-3) : Int32), (), rfl, (lf_X11_joints_5 a n1 n2 n3 n4 c_2 c_4), bx0⟩, hS.F ht⟩) hS.2.2 dX11_joints_31 hlocks
    · refine lv_aload_n hx hb dX11_joints_17 rfl (lv_at hl 0 rfl) ?_
      refine va_get (D := D) (ci := 11) (v := .ref (a 8)) (C := RX11) (T := TX11) (N := 13) hx hb hts inT_X11 hown hK.1 hP 0 rfl rfl 7 (by decide) (hts _ k_490) (fun _ h9 => h9) rfl dX11_joints_18 ?_
      refine lv_iload_n hx hb dX11_joints_21 rfl (lv_at hl 1 rfl) ?_
      refine lv_iload_n hx hb dX11_joints_22 rfl (lv_at hl 2 rfl) ?_
      refine eRi (va_runV (As := [.int n1, .int n2]) (rest := []) ⟨hx, hb, hml, hown, hts⟩ (c_X1_isToldUpTo l D cI cB cZ cJ tx a n1 n2 H.size) (zV hts k_1240 v_X1_isToldUpTo ⟨Nat.le_of_ble_eq_true rfl, Nat.le_of_ble_eq_true rfl⟩) (pV (pxS hK hP hD [2, 1] (by decide) rfl) hK hP 2 rfl rfl) rfl rfl hl.1 rfl (lv_room (Nat.le_of_ble_eq_true rfl)) dX11_joints_23 ⟨Nat.le_of_ble_eq_true rfl, Nat.le_of_ble_eq_true rfl⟩) hP hS hA (fun r_6 H locs wr_6 hP hS => ?_)
      subst wr_6
      refine lv_if_ne (tgt := 32) hx hb dX11_joints_26 (by decide) (fun c => absurd c (by decide)) (fun _ => ?_)
      refine lv_bipush (v := (-3)) hx hb dX11_joints_29 (by decide) ?_
      exact W.iret (v := (-3)) hx hb hr (fun t ht hW => ⟨⟨((-3) : Int32), (), rfl, (lf_X11_joints_7 a n1 n2 n3 n4 c_2 c_4), bx0⟩, hS.F ht⟩) hS.2.2 dX11_joints_31 hlocks

theorem lf_X11_check_2 (a : Nat → Nat) (n1 : Int32) (n2 : Int32) (n3 : Int32) (c_1 : n3 < 0) : ((-2) : Int32) = -2 := by
  first | rfl | (simp only [bi]; rw [if_pos (by grind)]; done) | (simp only [bi]; rw [if_neg (by grind)]; done) | grind
theorem lf_X11_check_4 (a : Nat → Nat) (n1 : Int32) (n2 : Int32) (n3 : Int32) (c_1 : ¬ n3 < 0) (c_3 : 0 < n3) : ((-2) : Int32) = -2 := by
  first | rfl | (simp only [bi]; rw [if_pos (by grind)]; done) | (simp only [bi]; rw [if_neg (by grind)]; done) | grind
theorem lf_X11_check_6 (a : Nat → Nat) (n1 : Int32) (n2 : Int32) (n3 : Int32) (c_1 : ¬ n3 < 0) (c_3 : ¬ 0 < n3) : ((-2) : Int32) = -2 := by
  first | rfl | (simp only [bi]; rw [if_pos (by grind)]; done) | (simp only [bi]; rw [if_neg (by grind)]; done) | grind
set_option maxHeartbeats 4000000 in
set_option maxRecDepth 100000 in
theorem c_X11_check (l : Launch) (D : va_G) (cI cB cZ cJ : ClassId) (tx : List (ClassId × FieldType)) (a : Nat → Nat) (n1 : Int32) (n2 : Int32) (n3 : Int32) : WrI l D cI cB cZ cJ tx yX11_check cX11_check 5 (some .int) 2 0 0 [.ref (a 0), .int n1, .int n2, .int n3] [(a 0, .inr (11, [.ref (a 1), .ref (a 2), .ref (a 3), .ref (a 4), .ref (a 5), .ref (a 6), .ref (a 7), .ref (a 8), .ref (a 9), .ref (a 10), .ref (a 11), .ref (a 12), .int 100])), (a 1, .inr (8, [.ref (a 17), .int 0])), (a 5, .inr (4, [.ref (a 18), .ref (a 19), .ref (a 20), .ref (a 21), .ref (a 22), .ref (a 23), .ref (a 24), .int 0, .int 0, .int 0, .int 1])), (a 7, .inr (2, [.ref (a 5), .ref (a 30), .ref (a 31), .ref (a 32), .ref (a 33), .ref (a 34), .ref (a 35), .ref (a 36), .ref (a 37), .ref (a 38), .ref (a 39), .ref (a 40)]))] (fun (r : Int32) (_ : Unit) => r = -2) (fun _ => []) := by
  refine wri_of2 (by decide) (Nat.le_of_ble_eq_true rfl) ?_
  intro p e s m below meth c A ls H locs hC hK hP hD hA hS hl
  obtain ⟨hx, hb, hr, hml, hown, hts, hlocks, hin⟩ := hC
  have hown : s.vm.findClass RX11 = some m.cls := hown
  have hl : lv_has ls 5 [(0, .ref (a 0)), (1, .int n1), (2, .int n2), (3, .int n3)] := hl
  refine lv_iload_n hx hb dX11_check_0 rfl (lv_at hl 3 rfl) ?_
  refine lv_if_lt (tgt := 29) hx hb dX11_check_1 (by decide) (fun c_1 => ?_) (fun c_1 => ?_)
  · refine lv_bipush (v := (-2)) hx hb dX11_check_29 (by decide) ?_
    exact W.iret (v := (-2)) hx hb hr (fun t ht hW => ⟨⟨((-2) : Int32), (), rfl, (lf_X11_check_2 a n1 n2 n3 c_1), bx0⟩, hS.F ht⟩) hS.2.2 dX11_check_31 hlocks
  · refine lv_iload_n hx hb dX11_check_4 rfl (lv_at hl 3 rfl) ?_
    refine lv_aload_n hx hb dX11_check_5 rfl (lv_at hl 0 rfl) ?_
    refine va_get (D := D) (ci := 11) (v := .ref (a 1)) (C := RX11) (T := TX11) (N := 13) hx hb hts inT_X11 hown hK.1 hP 0 rfl rfl 0 (by decide) (hts _ k_483) (fun _ h9 => h9) rfl dX11_check_6 ?_
    refine va_getN (D := D) (ci := 8) (v := .int 0) (C := RX8) (T := TX8) (N := 2) hx hb hts inT_X8 hown hK.1 hP 1 rfl rfl 1 (by decide) (va_Nw.use rfl (hK.2.2.1 _ n_152)) (fun _ h9 => h9) rfl dX11_check_9 ?_
    refine lv_iconst (v := 4) hx hb dX11_check_12 (by decide) ?_
    refine lv_idiv hx hb dX11_check_13 (by decide) ?_
    refine lv_topv (y := 0) (by decide) ?_
    refine lv_icmp_gt (tgt := 29) hx hb dX11_check_14 (by decide) (fun c_3 => ?_) (fun c_3 => ?_)
    · refine lv_bipush (v := (-2)) hx hb dX11_check_29 (by decide) ?_
      exact W.iret (v := (-2)) hx hb hr (fun t ht hW => ⟨⟨((-2) : Int32), (), rfl, (lf_X11_check_4 a n1 n2 n3 c_1 c_3), bx0⟩, hS.F ht⟩) hS.2.2 dX11_check_31 hlocks
    · refine lv_aload_n hx hb dX11_check_17 rfl (lv_at hl 0 rfl) ?_
      refine va_get (D := D) (ci := 11) (v := .ref (a 7)) (C := RX11) (T := TX11) (N := 13) hx hb hts inT_X11 hown hK.1 hP 0 rfl rfl 6 (by decide) (hts _ k_489) (fun _ h9 => h9) rfl dX11_check_18 ?_
      refine lv_iload_n hx hb dX11_check_21 rfl (lv_at hl 1 rfl) ?_
      refine lv_iload_n hx hb dX11_check_22 rfl (lv_at hl 2 rfl) ?_
      refine eRi (va_runV (As := [.int n1, .int n2]) (rest := []) ⟨hx, hb, hml, hown, hts⟩ (c_X2_fits l D cI cB cZ cJ tx a n1 n2 H.size) (zV hts k_1015 v_X2_fits ⟨Nat.le_of_ble_eq_true rfl, Nat.le_of_ble_eq_true rfl⟩) (pV (pxS hK hP hD [3, 2] (by decide) rfl) hK hP 3 rfl rfl) rfl rfl hl.1 rfl (lv_room (Nat.le_of_ble_eq_true rfl)) dX11_check_23 ⟨Nat.le_of_ble_eq_true rfl, Nat.le_of_ble_eq_true rfl⟩) hP hS hA (fun r_5 H locs wr_5 hP hS => ?_)
      subst wr_5
      refine lv_if_ne (tgt := 32) hx hb dX11_check_26 (by decide) (fun c => absurd c (by decide)) (fun _ => ?_)
      refine lv_bipush (v := (-2)) hx hb dX11_check_29 (by decide) ?_
      exact W.iret (v := (-2)) hx hb hr (fun t ht hW => ⟨⟨((-2) : Int32), (), rfl, (lf_X11_check_6 a n1 n2 n3 c_1 c_3), bx0⟩, hS.F ht⟩) hS.2.2 dX11_check_31 hlocks

theorem lf_X11_count_2 (a : Nat → Nat) (n1 : Int32) (c_1 : n1 = 0) : (0 : Int32) = sp_count n1 := by
  subst_vars
  first | decide | (unfold sp_count; grind)
theorem lf_X11_count_4 (a : Nat → Nat) (n1 : Int32) (c_1 : ¬ n1 = 0) (c_3 : n1 = 1) : (0 : Int32) = sp_count n1 := by
  subst_vars
  first | decide | (unfold sp_count; grind)
theorem lf_X11_count_7 (a : Nat → Nat) (n1 : Int32) (c_1 : ¬ n1 = 0) (c_3 : ¬ n1 = 1) (c_5 : n1 = 2) : (0 : Int32) = sp_count n1 := by
  subst_vars
  first | decide | (unfold sp_count; grind)
theorem lf_X11_count_9 (a : Nat → Nat) (n1 : Int32) (c_1 : ¬ n1 = 0) (c_3 : ¬ n1 = 1) (c_5 : ¬ n1 = 2) (c_8 : n1 = 3) : (1 : Int32) = sp_count n1 := by
  subst_vars
  first | decide | (unfold sp_count; grind)
theorem lf_X11_count_11 (a : Nat → Nat) (n1 : Int32) (c_1 : ¬ n1 = 0) (c_3 : ¬ n1 = 1) (c_5 : ¬ n1 = 2) (c_8 : ¬ n1 = 3) (c_10 : n1 = 4) : (0 : Int32) = sp_count n1 := by
  subst_vars
  first | decide | (unfold sp_count; grind)
theorem lf_X11_count_13 (a : Nat → Nat) (n1 : Int32) (c_1 : ¬ n1 = 0) (c_3 : ¬ n1 = 1) (c_5 : ¬ n1 = 2) (c_8 : ¬ n1 = 3) (c_10 : ¬ n1 = 4) (c_12 : n1 = 5) : (0 : Int32) = sp_count n1 := by
  subst_vars
  first | decide | (unfold sp_count; grind)
theorem lf_X11_count_15 (a : Nat → Nat) (n1 : Int32) (c_1 : ¬ n1 = 0) (c_3 : ¬ n1 = 1) (c_5 : ¬ n1 = 2) (c_8 : ¬ n1 = 3) (c_10 : ¬ n1 = 4) (c_12 : ¬ n1 = 5) (c_14 : n1 = 6) : (0 : Int32) = sp_count n1 := by
  subst_vars
  first | decide | (unfold sp_count; grind)
theorem lf_X11_count_17 (a : Nat → Nat) (n1 : Int32) (c_1 : ¬ n1 = 0) (c_3 : ¬ n1 = 1) (c_5 : ¬ n1 = 2) (c_8 : ¬ n1 = 3) (c_10 : ¬ n1 = 4) (c_12 : ¬ n1 = 5) (c_14 : ¬ n1 = 6) (c_16 : n1 = 7) : (0 : Int32) = sp_count n1 := by
  subst_vars
  first | decide | (unfold sp_count; grind)
theorem lf_X11_count_19 (a : Nat → Nat) (n1 : Int32) (c_1 : ¬ n1 = 0) (c_3 : ¬ n1 = 1) (c_5 : ¬ n1 = 2) (c_8 : ¬ n1 = 3) (c_10 : ¬ n1 = 4) (c_12 : ¬ n1 = 5) (c_14 : ¬ n1 = 6) (c_16 : ¬ n1 = 7) (c_18 : n1 = 8) : (0 : Int32) = sp_count n1 := by
  subst_vars
  first | decide | (unfold sp_count; grind)
theorem lf_X11_count_22 (a : Nat → Nat) (n1 : Int32) (c_1 : ¬ n1 = 0) (c_3 : ¬ n1 = 1) (c_5 : ¬ n1 = 2) (c_8 : ¬ n1 = 3) (c_10 : ¬ n1 = 4) (c_12 : ¬ n1 = 5) (c_14 : ¬ n1 = 6) (c_16 : ¬ n1 = 7) (c_18 : ¬ n1 = 8) (c_20 : n1 = 9) : (0 : Int32) = sp_count n1 := by
  subst_vars
  first | decide | (unfold sp_count; grind)
theorem lf_X11_count_23 (a : Nat → Nat) (n1 : Int32) (c_1 : ¬ n1 = 0) (c_3 : ¬ n1 = 1) (c_5 : ¬ n1 = 2) (c_8 : ¬ n1 = 3) (c_10 : ¬ n1 = 4) (c_12 : ¬ n1 = 5) (c_14 : ¬ n1 = 6) (c_16 : ¬ n1 = 7) (c_18 : ¬ n1 = 8) (c_20 : ¬ n1 = 9) : n1.toInt < 0 ∨ 9 < n1.toInt := by
  have e : ∀ k : Int32, ¬ n1 = k → n1.toInt ≠ k.toInt := fun k h q => h (Int32.toInt_inj.mp q)
  have e0 := e 0 ‹¬ n1 = 0›
  have z0 : (0 : Int32).toInt = 0 := by decide
  have e1 := e 1 ‹¬ n1 = 1›
  have z1 : (1 : Int32).toInt = 1 := by decide
  have e2 := e 2 ‹¬ n1 = 2›
  have z2 : (2 : Int32).toInt = 2 := by decide
  have e3 := e 3 ‹¬ n1 = 3›
  have z3 : (3 : Int32).toInt = 3 := by decide
  have e4 := e 4 ‹¬ n1 = 4›
  have z4 : (4 : Int32).toInt = 4 := by decide
  have e5 := e 5 ‹¬ n1 = 5›
  have z5 : (5 : Int32).toInt = 5 := by decide
  have e6 := e 6 ‹¬ n1 = 6›
  have z6 : (6 : Int32).toInt = 6 := by decide
  have e7 := e 7 ‹¬ n1 = 7›
  have z7 : (7 : Int32).toInt = 7 := by decide
  have e8 := e 8 ‹¬ n1 = 8›
  have z8 : (8 : Int32).toInt = 8 := by decide
  have e9 := e 9 ‹¬ n1 = 9›
  have z9 : (9 : Int32).toInt = 9 := by decide
  omega
theorem lf_X11_count_25 (a : Nat → Nat) (n1 : Int32) (c_1 : ¬ n1 = 0) (c_3 : ¬ n1 = 1) (c_5 : ¬ n1 = 2) (c_8 : ¬ n1 = 3) (c_10 : ¬ n1 = 4) (c_12 : ¬ n1 = 5) (c_14 : ¬ n1 = 6) (c_16 : ¬ n1 = 7) (c_18 : ¬ n1 = 8) (c_20 : ¬ n1 = 9) (c_24 : n1 < 10) : ((-1) : Int32) = sp_count n1 := by
  subst_vars
  first | decide | (unfold sp_count; grind)
theorem lf_X11_count_28 (a : Nat → Nat) (n1 : Int32) (c_1 : ¬ n1 = 0) (c_3 : ¬ n1 = 1) (c_5 : ¬ n1 = 2) (c_8 : ¬ n1 = 3) (c_10 : ¬ n1 = 4) (c_12 : ¬ n1 = 5) (c_14 : ¬ n1 = 6) (c_16 : ¬ n1 = 7) (c_18 : ¬ n1 = 8) (c_20 : ¬ n1 = 9) (c_24 : ¬ n1 < 10) (x_26 : Int32) (ex_26 : x_26 = n1 - 10) : ((-1) : Int32) = sp_count n1 := by
  subst_vars
  first | decide | (unfold sp_count; grind)
set_option maxHeartbeats 4000000 in
set_option maxRecDepth 100000 in
theorem c_X11_count (l : Launch) (D : va_G) (cI cB cZ cJ : ClassId) (cT : ClassId) (a : Nat → Nat) (n1 : Int32) : WrI l D cI cB cZ cJ [(cT, .object "NailStain$Text")] yX11_count cX11_count 2 (some .int) 2 0 0 [.ref (a 0), .int n1] [(a 0, .inr (11, [.ref (a 1), .ref (a 2), .ref (a 3), .ref (a 4), .ref (a 5), .ref (a 6), .ref (a 7), .ref (a 8), .ref (a 9), .ref (a 10), .ref (a 11), .ref (a 12), .int 100])), (a 1, .inr (8, [.ref (a 17), .int 0])), (a 3, .inl (cT, 4, .inr (.inr (.inr (.inr (fun j => if j < 4 then some (a (13 + j)) else none)))))), (a 5, .inr (4, [.ref (a 18), .ref (a 19), .ref (a 20), .ref (a 21), .ref (a 22), .ref (a 23), .ref (a 24), .int 0, .int 0, .int 0, .int 1])), (a 6, .inr (0, [.ref (a 5), .ref (a 25), .ref (a 26), .ref (a 27), .ref (a 28), .ref (a 29), .int 0])), (a 12, .inr (7, [.ref (a 48), .ref (a 49), .ref (a 50)])), (a 49, .inl (cZ, 6, .inl (fun _ => 0))), (a 13, .inr (9, [.ref (a 51), .ref (a 52), .ref (a 53), .ref (a 54), .ref (a 55), .int 0, .int 0, .int 0, .int 0])), (a 14, .inr (9, [.ref (a 56), .ref (a 57), .ref (a 58), .ref (a 59), .ref (a 60), .int 0, .int 0, .int 0, .int 0])), (a 15, .inr (9, [.ref (a 61), .ref (a 62), .ref (a 63), .ref (a 64), .ref (a 65), .int 0, .int 0, .int 0, .int 0]))] (fun (r : Int32) (_ : Unit) => r = sp_count n1) (fun _ => []) := by
  refine wri_of2 (by decide) (Nat.le_of_ble_eq_true rfl) ?_
  intro p e s m below meth c A ls H locs hC hK hP hD hA hS hl
  obtain ⟨hx, hb, hr, hml, hown, hts, hlocks, hin⟩ := hC
  have hown : s.vm.findClass RX11 = some m.cls := hown
  have hl : lv_has ls 2 [(0, .ref (a 0)), (1, .int n1)] := hl
  refine lv_iload_n hx hb dX11_count_0 rfl (lv_at hl 1 rfl) ?_
  by_cases c_1 : n1 = 0
  · subst c_1
    refine lv_tableIn (off := 55) (tgt := 56) hx hb dX11_count_1 (by decide) (by decide) rfl (by decide) ?_
    refine lv_aload_n hx hb dX11_count_56 rfl (lv_at hl 0 rfl) ?_
    refine va_get (D := D) (ci := 11) (v := .ref (a 5)) (C := RX11) (T := TX11) (N := 13) hx hb hts inT_X11 hown hK.1 hP 0 rfl rfl 4 (by decide) (hts _ k_487) (fun _ h9 => h9) rfl dX11_count_57 ?_
    refine va_getN (D := D) (ci := 4) (v := .int 0) (C := RX4) (T := TX4) (N := 11) hx hb hts inT_X4 hown hK.1 hP 3 rfl rfl 7 (by decide) (va_Nw.use rfl (hK.2.2.1 _ n_254)) (fun _ h9 => h9) rfl dX11_count_60 ?_
    exact W.iret (v := 0) hx hb hr (fun t ht hW => ⟨⟨(0 : Int32), (), rfl, (lf_X11_count_2 a 0 rfl), bx0⟩, hS.F ht⟩) hS.2.2 dX11_count_63 hlocks
  by_cases c_3 : n1 = 1
  · subst c_3
    refine lv_tableIn (off := 63) (tgt := 64) hx hb dX11_count_1 (by decide) (by decide) rfl (by decide) ?_
    refine lv_aload_n hx hb dX11_count_64 rfl (lv_at hl 0 rfl) ?_
    refine va_get (D := D) (ci := 11) (v := .ref (a 5)) (C := RX11) (T := TX11) (N := 13) hx hb hts inT_X11 hown hK.1 hP 0 rfl rfl 4 (by decide) (hts _ k_487) (fun _ h9 => h9) rfl dX11_count_65 ?_
    refine va_getN (D := D) (ci := 4) (v := .int 0) (C := RX4) (T := TX4) (N := 11) hx hb hts inT_X4 hown hK.1 hP 3 rfl rfl 8 (by decide) (va_Nw.use rfl (hK.2.2.1 _ n_260)) (fun _ h9 => h9) rfl dX11_count_68 ?_
    exact W.iret (v := 0) hx hb hr (fun t ht hW => ⟨⟨(0 : Int32), (), rfl, (lf_X11_count_4 a 1 c_1 rfl), bx0⟩, hS.F ht⟩) hS.2.2 dX11_count_71 hlocks
  by_cases c_5 : n1 = 2
  · subst c_5
    refine lv_tableIn (off := 71) (tgt := 72) hx hb dX11_count_1 (by decide) (by decide) rfl (by decide) ?_
    refine lv_aload_n hx hb dX11_count_72 rfl (lv_at hl 0 rfl) ?_
    refine va_get (D := D) (ci := 11) (v := .ref (a 5)) (C := RX11) (T := TX11) (N := 13) hx hb hts inT_X11 hown hK.1 hP 0 rfl rfl 4 (by decide) (hts _ k_487) (fun _ h9 => h9) rfl dX11_count_73 ?_
    refine eRi (va_runV (As := []) (rest := []) ⟨hx, hb, hml, hown, hts⟩ (c_X4_left l D cI cB cZ cJ [(cT, .object "NailStain$Text")] a H.size) (zV hts k_842 v_X4_left ⟨Nat.le_of_ble_eq_true rfl, Nat.le_of_ble_eq_true rfl⟩) (pV (px1 hK hP 3 rfl) hK hP 3 rfl rfl) rfl rfl hl.1 rfl (lv_room (Nat.le_of_ble_eq_true rfl)) dX11_count_76 ⟨Nat.le_of_ble_eq_true rfl, Nat.le_of_ble_eq_true rfl⟩) hP hS hA (fun r_6 H locs wr_6 hP hS => ?_)
    subst wr_6
    exact W.iret (v := 0) hx hb hr (fun t ht hW => ⟨⟨(0 : Int32), (), rfl, (lf_X11_count_7 a 2 c_1 c_3 rfl), bx0⟩, hS.F ht⟩) hS.2.2 dX11_count_79 hlocks
  by_cases c_8 : n1 = 3
  · subst c_8
    refine lv_tableIn (off := 79) (tgt := 80) hx hb dX11_count_1 (by decide) (by decide) rfl (by decide) ?_
    refine lv_aload_n hx hb dX11_count_80 rfl (lv_at hl 0 rfl) ?_
    refine va_get (D := D) (ci := 11) (v := .ref (a 5)) (C := RX11) (T := TX11) (N := 13) hx hb hts inT_X11 hown hK.1 hP 0 rfl rfl 4 (by decide) (hts _ k_487) (fun _ h9 => h9) rfl dX11_count_81 ?_
    refine va_getN (D := D) (ci := 4) (v := .int 1) (C := RX4) (T := TX4) (N := 11) hx hb hts inT_X4 hown hK.1 hP 3 rfl rfl 10 (by decide) (va_Nw.use rfl (hK.2.2.1 _ n_263)) (fun _ h9 => h9) rfl dX11_count_84 ?_
    exact W.iret (v := 1) hx hb hr (fun t ht hW => ⟨⟨(1 : Int32), (), rfl, (lf_X11_count_9 a 3 c_1 c_3 c_5 rfl), bx0⟩, hS.F ht⟩) hS.2.2 dX11_count_87 hlocks
  by_cases c_10 : n1 = 4
  · subst c_10
    refine lv_tableIn (off := 87) (tgt := 88) hx hb dX11_count_1 (by decide) (by decide) rfl (by decide) ?_
    refine lv_aload_n hx hb dX11_count_88 rfl (lv_at hl 0 rfl) ?_
    refine va_get (D := D) (ci := 11) (v := .ref (a 1)) (C := RX11) (T := TX11) (N := 13) hx hb hts inT_X11 hown hK.1 hP 0 rfl rfl 0 (by decide) (hts _ k_483) (fun _ h9 => h9) rfl dX11_count_89 ?_
    refine va_getN (D := D) (ci := 8) (v := .int 0) (C := RX8) (T := TX8) (N := 2) hx hb hts inT_X8 hown hK.1 hP 1 rfl rfl 1 (by decide) (va_Nw.use rfl (hK.2.2.1 _ n_152)) (fun _ h9 => h9) rfl dX11_count_92 ?_
    exact W.iret (v := 0) hx hb hr (fun t ht hW => ⟨⟨(0 : Int32), (), rfl, (lf_X11_count_11 a 4 c_1 c_3 c_5 c_8 rfl), bx0⟩, hS.F ht⟩) hS.2.2 dX11_count_95 hlocks
  by_cases c_12 : n1 = 5
  · subst c_12
    refine lv_tableIn (off := 95) (tgt := 96) hx hb dX11_count_1 (by decide) (by decide) rfl (by decide) ?_
    refine lv_aload_n hx hb dX11_count_96 rfl (lv_at hl 0 rfl) ?_
    refine va_get (D := D) (ci := 11) (v := .ref (a 3)) (C := RX11) (T := TX11) (N := 13) hx hb hts inT_X11 hown hK.1 hP 0 rfl rfl 2 (by decide) (hts _ k_485) (fun _ h9 => h9) rfl dX11_count_97 ?_
    refine lv_iload_n hx hb dX11_count_100 rfl (lv_at hl 1 rfl) ?_
    refine lv_iconst (v := 5) hx hb dX11_count_101 (by decide) ?_
    refine lv_isub hx hb dX11_count_102 ?_
    refine lv_topv (y := 0) (by decide) ?_
    refine va_aldq hx hb hK.1 hP 2 4 rfl rfl (by unfold vp_in; decide) dX11_count_103 ?_
    refine lv_topr (y := .ref (a 13)) rfl ?_
    refine va_getN (D := D) (ci := 9) (v := .int 0) (C := RX9) (T := TX9) (N := 9) hx hb hts inT_X9 hown hK.1 hP 7 rfl rfl 6 (by decide) (va_Nw.use rfl (hK.2.2.1 _ n_202)) (fun _ h9 => h9) rfl dX11_count_104 ?_
    exact W.iret (v := 0) hx hb hr (fun t ht hW => ⟨⟨(0 : Int32), (), rfl, (lf_X11_count_13 a 5 c_1 c_3 c_5 c_8 c_10 rfl), bx0⟩, hS.F ht⟩) hS.2.2 dX11_count_107 hlocks
  by_cases c_14 : n1 = 6
  · subst c_14
    refine lv_tableIn (off := 95) (tgt := 96) hx hb dX11_count_1 (by decide) (by decide) rfl (by decide) ?_
    refine lv_aload_n hx hb dX11_count_96 rfl (lv_at hl 0 rfl) ?_
    refine va_get (D := D) (ci := 11) (v := .ref (a 3)) (C := RX11) (T := TX11) (N := 13) hx hb hts inT_X11 hown hK.1 hP 0 rfl rfl 2 (by decide) (hts _ k_485) (fun _ h9 => h9) rfl dX11_count_97 ?_
    refine lv_iload_n hx hb dX11_count_100 rfl (lv_at hl 1 rfl) ?_
    refine lv_iconst (v := 5) hx hb dX11_count_101 (by decide) ?_
    refine lv_isub hx hb dX11_count_102 ?_
    refine lv_topv (y := 1) (by decide) ?_
    refine va_aldq hx hb hK.1 hP 2 4 rfl rfl (by unfold vp_in; decide) dX11_count_103 ?_
    refine lv_topr (y := .ref (a 14)) rfl ?_
    refine va_getN (D := D) (ci := 9) (v := .int 0) (C := RX9) (T := TX9) (N := 9) hx hb hts inT_X9 hown hK.1 hP 8 rfl rfl 6 (by decide) (va_Nw.use rfl (hK.2.2.1 _ n_202)) (fun _ h9 => h9) rfl dX11_count_104 ?_
    exact W.iret (v := 0) hx hb hr (fun t ht hW => ⟨⟨(0 : Int32), (), rfl, (lf_X11_count_15 a 6 c_1 c_3 c_5 c_8 c_10 c_12 rfl), bx0⟩, hS.F ht⟩) hS.2.2 dX11_count_107 hlocks
  by_cases c_16 : n1 = 7
  · subst c_16
    refine lv_tableIn (off := 95) (tgt := 96) hx hb dX11_count_1 (by decide) (by decide) rfl (by decide) ?_
    refine lv_aload_n hx hb dX11_count_96 rfl (lv_at hl 0 rfl) ?_
    refine va_get (D := D) (ci := 11) (v := .ref (a 3)) (C := RX11) (T := TX11) (N := 13) hx hb hts inT_X11 hown hK.1 hP 0 rfl rfl 2 (by decide) (hts _ k_485) (fun _ h9 => h9) rfl dX11_count_97 ?_
    refine lv_iload_n hx hb dX11_count_100 rfl (lv_at hl 1 rfl) ?_
    refine lv_iconst (v := 5) hx hb dX11_count_101 (by decide) ?_
    refine lv_isub hx hb dX11_count_102 ?_
    refine lv_topv (y := 2) (by decide) ?_
    refine va_aldq hx hb hK.1 hP 2 4 rfl rfl (by unfold vp_in; decide) dX11_count_103 ?_
    refine lv_topr (y := .ref (a 15)) rfl ?_
    refine va_getN (D := D) (ci := 9) (v := .int 0) (C := RX9) (T := TX9) (N := 9) hx hb hts inT_X9 hown hK.1 hP 9 rfl rfl 6 (by decide) (va_Nw.use rfl (hK.2.2.1 _ n_202)) (fun _ h9 => h9) rfl dX11_count_104 ?_
    exact W.iret (v := 0) hx hb hr (fun t ht hW => ⟨⟨(0 : Int32), (), rfl, (lf_X11_count_17 a 7 c_1 c_3 c_5 c_8 c_10 c_12 c_14 rfl), bx0⟩, hS.F ht⟩) hS.2.2 dX11_count_107 hlocks
  by_cases c_18 : n1 = 8
  · subst c_18
    refine lv_tableIn (off := 107) (tgt := 108) hx hb dX11_count_1 (by decide) (by decide) rfl (by decide) ?_
    refine lv_aload_n hx hb dX11_count_108 rfl (lv_at hl 0 rfl) ?_
    refine va_get (D := D) (ci := 11) (v := .ref (a 6)) (C := RX11) (T := TX11) (N := 13) hx hb hts inT_X11 hown hK.1 hP 0 rfl rfl 5 (by decide) (hts _ k_488) (fun _ h9 => h9) rfl dX11_count_109 ?_
    refine va_getN (D := D) (ci := 0) (v := .int 0) (C := RX0) (T := TX0) (N := 7) hx hb hts inT_X0 hown hK.1 hP 4 rfl rfl 6 (by decide) (va_Nw.use rfl (hK.2.2.1 _ n_301)) (fun _ h9 => h9) rfl dX11_count_112 ?_
    exact W.iret (v := 0) hx hb hr (fun t ht hW => ⟨⟨(0 : Int32), (), rfl, (lf_X11_count_19 a 8 c_1 c_3 c_5 c_8 c_10 c_12 c_14 c_16 rfl), bx0⟩, hS.F ht⟩) hS.2.2 dX11_count_115 hlocks
  by_cases c_20 : n1 = 9
  · subst c_20
    refine lv_tableIn (off := 115) (tgt := 116) hx hb dX11_count_1 (by decide) (by decide) rfl (by decide) ?_
    refine lv_aload_n hx hb dX11_count_116 rfl (lv_at hl 0 rfl) ?_
    refine va_get (D := D) (ci := 11) (v := .ref (a 12)) (C := RX11) (T := TX11) (N := 13) hx hb hts inT_X11 hown hK.1 hP 0 rfl rfl 11 (by decide) (hts _ k_494) (fun _ h9 => h9) rfl dX11_count_117 ?_
    refine eRi (va_runV (As := []) (rest := []) ⟨hx, hb, hml, hown, hts⟩ (c_X7_told l D cI cB cZ cJ [(cT, .object "NailStain$Text")] a H.size) (zV hts k_1218 v_X7_told ⟨Nat.le_of_ble_eq_true rfl, Nat.le_of_ble_eq_true rfl⟩) (pV (pxS hK hP hD [5, 6] (by decide) rfl) hK hP 5 rfl rfl) rfl rfl hl.1 rfl (lv_room (Nat.le_of_ble_eq_true rfl)) dX11_count_120 ⟨Nat.le_of_ble_eq_true rfl, Nat.le_of_ble_eq_true rfl⟩) hP hS hA (fun r_21 H locs wr_21 hP hS => ?_)
    subst wr_21
    exact W.iret (v := 0) hx hb hr (fun t ht hW => ⟨⟨(0 : Int32), (), rfl, (lf_X11_count_22 a 9 c_1 c_3 c_5 c_8 c_10 c_12 c_14 c_16 c_18 rfl), bx0⟩, hS.F ht⟩) hS.2.2 dX11_count_123 hlocks
  refine lv_tableOut (tgt := 124) hx hb dX11_count_1 (lf_X11_count_23 a n1 c_1 c_3 c_5 c_8 c_10 c_12 c_14 c_16 c_18 c_20) (by decide) ?_
  refine lv_iload_n hx hb dX11_count_124 rfl (lv_at hl 1 rfl) ?_
  refine lv_bipush (v := 10) hx hb dX11_count_125 (by decide) ?_
  refine lv_icmp_lt (tgt := 158) hx hb dX11_count_127 (by decide) (fun c_24 => ?_) (fun c_24 => ?_)
  · refine lv_iconst (v := (-1)) hx hb dX11_count_158 (by decide) ?_
    exact W.iret (v := (-1)) hx hb hr (fun t ht hW => ⟨⟨((-1) : Int32), (), rfl, (lf_X11_count_25 a n1 c_1 c_3 c_5 c_8 c_10 c_12 c_14 c_16 c_18 c_20 c_24), bx0⟩, hS.F ht⟩) hS.2.2 dX11_count_159 hlocks
  · refine lv_aload_n hx hb dX11_count_130 rfl (lv_at hl 0 rfl) ?_
    refine va_get (D := D) (ci := 11) (v := .ref (a 6)) (C := RX11) (T := TX11) (N := 13) hx hb hts inT_X11 hown hK.1 hP 0 rfl rfl 5 (by decide) (hts _ k_488) (fun _ h9 => h9) rfl dX11_count_131 ?_
    refine lv_iload_n hx hb dX11_count_134 rfl (lv_at hl 1 rfl) ?_
    refine lv_bipush (v := 10) hx hb dX11_count_135 (by decide) ?_
    refine lv_isub hx hb dX11_count_137 ?_
    refine lv_topi (fun x_26 ex_26 => ?_)
    refine eRi (va_runV (As := [.int x_26]) (rest := []) ⟨hx, hb, hml, hown, hts⟩ (c_X0_has l D cI cB cZ cJ [(cT, .object "NailStain$Text")] a x_26 H.size) (zV hts k_899 v_X0_has ⟨Nat.le_of_ble_eq_true rfl, Nat.le_of_ble_eq_true rfl⟩) (pV (px1 hK hP 4 rfl) hK hP 4 rfl rfl) rfl rfl hl.1 rfl (lv_room (Nat.le_of_ble_eq_true rfl)) dX11_count_138 ⟨Nat.le_of_ble_eq_true rfl, Nat.le_of_ble_eq_true rfl⟩) hP hS hA (fun r_27 H locs wr_27 hP hS => ?_)
    subst wr_27
    refine lv_if_eq (tgt := 158) hx hb dX11_count_141 (by decide) (fun _ => ?_) (fun c => absurd c (by decide))
    refine lv_iconst (v := (-1)) hx hb dX11_count_158 (by decide) ?_
    exact W.iret (v := (-1)) hx hb hr (fun t ht hW => ⟨⟨((-1) : Int32), (), rfl, (lf_X11_count_28 a n1 c_1 c_3 c_5 c_8 c_10 c_12 c_14 c_16 c_18 c_20 c_24 x_26 ex_26), bx0⟩, hS.F ht⟩) hS.2.2 dX11_count_159 hlocks
