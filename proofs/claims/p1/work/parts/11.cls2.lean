theorem lf_X11_pitch_3 (a : Nat → Nat) (n1 : Int32) (c_2 : (1 : Int32) ≤ n1 ∧ n1 ≤ 1000) : (1 : Int32) = bi (1 ≤ n1 ∧ n1 ≤ 1000) := by
  first | rfl | (simp only [bi]; rw [if_pos (by grind)]; done) | (simp only [bi]; rw [if_neg (by grind)]; done) | grind
theorem lf_X11_pitch_4 (a : Nat → Nat) (n1 : Int32) (c_2 : ¬ ((1 : Int32) ≤ n1 ∧ n1 ≤ 1000)) : (0 : Int32) = bi (1 ≤ n1 ∧ n1 ≤ 1000) := by
  first | rfl | (simp only [bi]; rw [if_pos (by grind)]; done) | (simp only [bi]; rw [if_neg (by grind)]; done) | grind
set_option maxHeartbeats 4000000 in
set_option maxRecDepth 100000 in
theorem c_X11_pitch (l : Launch) (D : va_G) (cI cB cZ cJ : ClassId) (tx : List (ClassId × FieldType)) (a : Nat → Nat) (n1 : Int32) : WrI l D cI cB cZ cJ tx yX11_pitch cX11_pitch 2 (some .boolean) 1 0 0 [.ref (a 0), .int n1] [(a 0, .inr (11, [.ref (a 1), .ref (a 2), .ref (a 3), .ref (a 4), .ref (a 5), .ref (a 6), .ref (a 7), .ref (a 8), .ref (a 9), .ref (a 10), .ref (a 11), .ref (a 12), .int 100]))] (fun (r : Int32) (_ : Unit) => r = bi (1 ≤ n1 ∧ n1 ≤ 1000)) (fun _ => []) := by
  refine wri_of2 (by decide) (Nat.le_of_ble_eq_true rfl) ?_
  intro p e s m below meth c A ls H locs hC hK hP hD hA hS hl
  obtain ⟨hx, hb, hr, hml, hown, hts, hlocks, hin⟩ := hC
  have hown : s.vm.findClass RX11 = some m.cls := hown
  have hl : lv_has ls 2 [(0, .ref (a 0)), (1, .int n1)] := hl
  refine lv_iload_n hx hb dX11_pitch_0 rfl (lv_at hl 1 rfl) ?_
  refine lv_iconst (v := 1) hx hb dX11_pitch_1 (by decide) ?_
  refine lv_sipush (v := 1000) hx hb dX11_pitch_2 (by decide) ?_
  refine eRi (va_runS (As := [.int n1, .int 1, .int 1000]) (rest := []) ⟨hx, hb, hml, hown, hts⟩ (c_X11_within l D cI cB cZ cJ tx n1 1 1000 H.size) (zS hts k_527 v_X11_within ⟨Nat.le_of_ble_eq_true rfl, Nat.le_of_ble_eq_true rfl⟩) (px0 hK) rfl rfl hl.1 rfl (lv_room (Nat.le_of_ble_eq_true rfl)) dX11_pitch_5 ⟨Nat.le_of_ble_eq_true rfl, Nat.le_of_ble_eq_true rfl⟩) hP hS hA (fun r_1 H locs wr_1 hP hS => ?_)
  subst wr_1
  refine lv_bi_ne (tgt := 13) hx hb dX11_pitch_8 (by decide) (fun c_2 => ?_) (fun c_2 => ?_)
  · refine lv_aload_n hx hb dX11_pitch_13 rfl (lv_at hl 0 rfl) ?_
    refine lv_iload_n hx hb dX11_pitch_14 rfl (lv_at hl 1 rfl) ?_
    refine va_put (D := D) (ci := 11) (v := .int n1) (ty := .int) (C := RX11) (T := TX11) (N := 13) hx hb hts inT_X11 tyX11 tyX11_ok nmX11 hown hK.1 hP hD hS 0 rfl rfl 12 (by decide) (hts _ k_495) (fun _ h9 => h9) rfl (by decide +kernel) rfl rfl (Nat.le_of_ble_eq_true rfl) dX11_pitch_15 (fun H locs hP hD hS => ?_)
    have hP : va_P D vwCl [(a 0, .inr (11, [.ref (a 1), .ref (a 2), .ref (a 3), .ref (a 4), .ref (a 5), .ref (a 6), .ref (a 7), .ref (a 8), .ref (a 9), .ref (a 10), .ref (a 11), .ref (a 12), .int n1]))] H := hP
    have hD : va_D A [(a 0, .inr (11, [.ref (a 1), .ref (a 2), .ref (a 3), .ref (a 4), .ref (a 5), .ref (a 6), .ref (a 7), .ref (a 8), .ref (a 9), .ref (a 10), .ref (a 11), .ref (a 12), .int n1]))] := hD
    refine lv_iconst (v := 1) hx hb dX11_pitch_18 (by decide) ?_
    exact W.zret (v := 1) hx hb hr (by decide) (fun t ht hW => ⟨⟨(1 : Int32), (), rfl, (lf_X11_pitch_3 a n1 c_2), bx0⟩, hS.F ht⟩) hS.2.2 dX11_pitch_19 hlocks
  · refine lv_iconst (v := 0) hx hb dX11_pitch_11 (by decide) ?_
    exact W.zret (v := 0) hx hb hr (by decide) (fun t ht hW => ⟨⟨(0 : Int32), (), rfl, (lf_X11_pitch_4 a n1 c_2), bx0⟩, hS.F ht⟩) hS.2.2 dX11_pitch_12 hlocks

theorem lf_X11_seed_3 (a : Nat → Nat) (n1 : Int32) (c_2 : (0 : Int32) ≤ n1 ∧ n1 ≤ 65535) : (1 : Int32) = bi (0 ≤ n1 ∧ n1 ≤ 65535) := by
  first | rfl | (simp only [bi]; rw [if_pos (by grind)]; done) | (simp only [bi]; rw [if_neg (by grind)]; done) | grind
theorem lf_X11_seed_4 (a : Nat → Nat) (n1 : Int32) (c_2 : ¬ ((0 : Int32) ≤ n1 ∧ n1 ≤ 65535)) : (0 : Int32) = bi (0 ≤ n1 ∧ n1 ≤ 65535) := by
  first | rfl | (simp only [bi]; rw [if_pos (by grind)]; done) | (simp only [bi]; rw [if_neg (by grind)]; done) | grind
set_option maxHeartbeats 4000000 in
set_option maxRecDepth 100000 in
theorem c_X11_seed (l : Launch) (D : va_G) (cI cB cZ cJ : ClassId) (tx : List (ClassId × FieldType)) (a : Nat → Nat) (n1 : Int32) : WrI l D cI cB cZ cJ tx yX11_seed cX11_seed 2 (some .boolean) 1 0 0 [.ref (a 0), .int n1] [(a 0, .inr (11, [.ref (a 1), .ref (a 2), .ref (a 3), .ref (a 4), .ref (a 5), .ref (a 6), .ref (a 7), .ref (a 8), .ref (a 9), .ref (a 10), .ref (a 11), .ref (a 12), .int 100])), (a 5, .inr (4, [.ref (a 18), .ref (a 19), .ref (a 20), .ref (a 21), .ref (a 22), .ref (a 23), .ref (a 24), .int 0, .int 0, .int 0, .int 1]))] (fun (r : Int32) (_ : Unit) => r = bi (0 ≤ n1 ∧ n1 ≤ 65535)) (fun _ => []) := by
  refine wri_of2 (by decide) (Nat.le_of_ble_eq_true rfl) ?_
  intro p e s m below meth c A ls H locs hC hK hP hD hA hS hl
  obtain ⟨hx, hb, hr, hml, hown, hts, hlocks, hin⟩ := hC
  have hown : s.vm.findClass RX11 = some m.cls := hown
  have hl : lv_has ls 2 [(0, .ref (a 0)), (1, .int n1)] := hl
  refine lv_iload_n hx hb dX11_seed_0 rfl (lv_at hl 1 rfl) ?_
  refine lv_iconst (v := 0) hx hb dX11_seed_1 (by decide) ?_
  refine lv_ldc (v := 65535) hx hb hown (hts _ k_534) dX11_seed_2 ?_
  refine eRi (va_runS (As := [.int n1, .int 0, .int 65535]) (rest := []) ⟨hx, hb, hml, hown, hts⟩ (c_X11_within l D cI cB cZ cJ tx n1 0 65535 H.size) (zS hts k_527 v_X11_within ⟨Nat.le_of_ble_eq_true rfl, Nat.le_of_ble_eq_true rfl⟩) (px0 hK) rfl rfl hl.1 rfl (lv_room (Nat.le_of_ble_eq_true rfl)) dX11_seed_4 ⟨Nat.le_of_ble_eq_true rfl, Nat.le_of_ble_eq_true rfl⟩) hP hS hA (fun r_1 H locs wr_1 hP hS => ?_)
  subst wr_1
  refine lv_bi_ne (tgt := 12) hx hb dX11_seed_7 (by decide) (fun c_2 => ?_) (fun c_2 => ?_)
  · refine lv_aload_n hx hb dX11_seed_12 rfl (lv_at hl 0 rfl) ?_
    refine va_get (D := D) (ci := 11) (v := .ref (a 5)) (C := RX11) (T := TX11) (N := 13) hx hb hts inT_X11 hown hK.1 hP 0 rfl rfl 4 (by decide) (hts _ k_487) (fun _ h9 => h9) rfl dX11_seed_13 ?_
    refine lv_iload_n hx hb dX11_seed_16 rfl (lv_at hl 1 rfl) ?_
    refine va_putN (D := D) (ci := 4) (v := .int n1) (ty := .int) (C := RX4) (T := TX4) (N := 11) hx hb hts inT_X4 tyX4 tyX4_ok nmX4 hown hK.1 hP hD hS 1 rfl rfl 10 (by decide) (va_Nw.use rfl (hK.2.2.1 _ n_263)) (fun _ h9 => h9) rfl (by decide +kernel) rfl rfl (Nat.le_of_ble_eq_true rfl) dX11_seed_17 (fun H locs hP hD hS => ?_)
    have hP : va_P D vwCl [(a 0, .inr (11, [.ref (a 1), .ref (a 2), .ref (a 3), .ref (a 4), .ref (a 5), .ref (a 6), .ref (a 7), .ref (a 8), .ref (a 9), .ref (a 10), .ref (a 11), .ref (a 12), .int 100])), (a 5, .inr (4, [.ref (a 18), .ref (a 19), .ref (a 20), .ref (a 21), .ref (a 22), .ref (a 23), .ref (a 24), .int 0, .int 0, .int 0, .int n1]))] H := hP
    have hD : va_D A [(a 0, .inr (11, [.ref (a 1), .ref (a 2), .ref (a 3), .ref (a 4), .ref (a 5), .ref (a 6), .ref (a 7), .ref (a 8), .ref (a 9), .ref (a 10), .ref (a 11), .ref (a 12), .int 100])), (a 5, .inr (4, [.ref (a 18), .ref (a 19), .ref (a 20), .ref (a 21), .ref (a 22), .ref (a 23), .ref (a 24), .int 0, .int 0, .int 0, .int n1]))] := hD
    refine lv_iconst (v := 1) hx hb dX11_seed_20 (by decide) ?_
    exact W.zret (v := 1) hx hb hr (by decide) (fun t ht hW => ⟨⟨(1 : Int32), (), rfl, (lf_X11_seed_3 a n1 c_2), bx0⟩, hS.F ht⟩) hS.2.2 dX11_seed_21 hlocks
  · refine lv_iconst (v := 0) hx hb dX11_seed_10 (by decide) ?_
    exact W.zret (v := 0) hx hb hr (by decide) (fun t ht hW => ⟨⟨(0 : Int32), (), rfl, (lf_X11_seed_4 a n1 c_2), bx0⟩, hS.F ht⟩) hS.2.2 dX11_seed_11 hlocks

theorem lf_X11_feed_13 (a : Nat → Nat) (n1 : Int32) (n2 : Int32) (n3 : Int32) (n4 : Int32) (n5 : Int32) : (20 : Int32) = 20 := by
  first | rfl | (simp only [bi]; rw [if_pos (by grind)]; done) | (simp only [bi]; rw [if_neg (by grind)]; done) | grind
set_option maxHeartbeats 4000000 in
set_option maxRecDepth 100000 in
theorem c_X11_feed (l : Launch) (D : va_G) (cI cB cZ cJ : ClassId) (tx : List (ClassId × FieldType)) (a : Nat → Nat) (n1 : Int32) (n2 : Int32) (n3 : Int32) (n4 : Int32) (n5 : Int32) : WrI l D cI cB cZ cJ tx yX11_feed cX11_feed 6 (some .int) 1 0 0 [.ref (a 0), .int n1, .int n2, .int n3, .int n4, .int n5] [(a 0, .inr (11, [.ref (a 1), .ref (a 2), .ref (a 3), .ref (a 4), .ref (a 5), .ref (a 6), .ref (a 7), .ref (a 8), .ref (a 9), .ref (a 10), .ref (a 11), .ref (a 12), .int 100])), (a 1, .inr (8, [.ref (a 17), .int 0])), (a 17, .inl (cB, 220, .inl (fun _ => 0)))] (fun (r : Int32) (_ : Unit) => r = 20) (fun _ => []) := by
  refine wri_of2 (by decide) (Nat.le_of_ble_eq_true rfl) ?_
  intro p e s m below meth c A ls H locs hC hK hP hD hA hS hl
  obtain ⟨hx, hb, hr, hml, hown, hts, hlocks, hin⟩ := hC
  have hown : s.vm.findClass RX11 = some m.cls := hown
  have hl : lv_has ls 6 [(0, .ref (a 0)), (1, .int n1), (2, .int n2), (3, .int n3), (4, .int n4), (5, .int n5)] := hl
  refine lv_aload_n hx hb dX11_feed_0 rfl (lv_at hl 0 rfl) ?_
  refine va_get (D := D) (ci := 11) (v := .ref (a 1)) (C := RX11) (T := TX11) (N := 13) hx hb hts inT_X11 hown hK.1 hP 0 rfl rfl 0 (by decide) (hts _ k_483) (fun _ h9 => h9) rfl dX11_feed_1 ?_
  refine lv_bipush (v := 20) hx hb dX11_feed_4 (by decide) ?_
  refine eWi (wr := [(a 0, .inr (11, [.ref (a 1), .ref (a 2), .ref (a 3), .ref (a 4), .ref (a 5), .ref (a 6), .ref (a 7), .ref (a 8), .ref (a 9), .ref (a 10), .ref (a 11), .ref (a 12), .int 100]))]) (va_runV (As := [.int 20]) (rest := []) ⟨hx, hb, hml, hown, hts⟩ (c_X8_hasRoom l D cI cB cZ cJ tx a H.size) (zV hts k_539 v_X8_hasRoom ⟨Nat.le_of_ble_eq_true rfl, Nat.le_of_ble_eq_true rfl⟩) (pV (pxS hK hP hD [1, 2] (by decide) rfl) hK hP 1 rfl rfl) rfl rfl hl.1 rfl (lv_room (Nat.le_of_ble_eq_true rfl)) dX11_feed_6 ⟨Nat.le_of_ble_eq_true rfl, Nat.le_of_ble_eq_true rfl⟩) hP hD hS hA [1, 2] [0] rfl rfl (by decide) (by decide) (fun r_1 u_2 H locs wr_1 hP hD hS => ?_)
  have hP : va_P D vwCl [(a 0, .inr (11, [.ref (a 1), .ref (a 2), .ref (a 3), .ref (a 4), .ref (a 5), .ref (a 6), .ref (a 7), .ref (a 8), .ref (a 9), .ref (a 10), .ref (a 11), .ref (a 12), .int 100])), (a 1, .inr (8, [.ref (a 17), .int 0])), (a 17, .inl (cB, 220, .inl (fun _ => 0)))] H := hP
  have hD : va_D A [(a 0, .inr (11, [.ref (a 1), .ref (a 2), .ref (a 3), .ref (a 4), .ref (a 5), .ref (a 6), .ref (a 7), .ref (a 8), .ref (a 9), .ref (a 10), .ref (a 11), .ref (a 12), .int 100])), (a 1, .inr (8, [.ref (a 17), .int 0])), (a 17, .inl (cB, 220, .inl (fun _ => 0)))] := hD
  subst wr_1
  refine lv_if_ne (tgt := 14) hx hb dX11_feed_9 (by decide) (fun _ => ?_) (fun c => absurd c (by decide))
  refine lv_aload_n hx hb dX11_feed_14 rfl (lv_at hl 0 rfl) ?_
  refine va_get (D := D) (ci := 11) (v := .ref (a 1)) (C := RX11) (T := TX11) (N := 13) hx hb hts inT_X11 hown hK.1 hP 0 rfl rfl 0 (by decide) (hts _ k_483) (fun _ h9 => h9) rfl dX11_feed_15 ?_
  refine lv_iload_n hx hb dX11_feed_18 rfl (lv_at hl 1 rfl) ?_
  refine eWv (wr := [(a 0, .inr (11, [.ref (a 1), .ref (a 2), .ref (a 3), .ref (a 4), .ref (a 5), .ref (a 6), .ref (a 7), .ref (a 8), .ref (a 9), .ref (a 10), .ref (a 11), .ref (a 12), .int 100]))]) (va_runV (As := [.int n1]) (rest := []) ⟨hx, hb, hml, hown, hts⟩ (c_X8_put_0 l D cI cB cZ cJ tx a (fun _ => 0) n1 H.size) (zV hts k_543 v_X8_put ⟨Nat.le_of_ble_eq_true rfl, Nat.le_of_ble_eq_true rfl⟩) (pV (pxS hK hP hD [1, 2] (by decide) rfl) hK hP 1 rfl rfl) rfl rfl hl.1 rfl (lv_room (Nat.le_of_ble_eq_true rfl)) dX11_feed_19 ⟨Nat.le_of_ble_eq_true rfl, Nat.le_of_ble_eq_true rfl⟩) hP hD hS hA [1, 2] [0] rfl rfl (by decide) (by decide) (fun u_4 H locs wr_3 hP hD hS => ?_)
  have hP : va_P D vwCl [(a 0, .inr (11, [.ref (a 1), .ref (a 2), .ref (a 3), .ref (a 4), .ref (a 5), .ref (a 6), .ref (a 7), .ref (a 8), .ref (a 9), .ref (a 10), .ref (a 11), .ref (a 12), .int 100])), (a 1, .inr (8, [.ref (a 17), .int 4])), (a 17, .inl (cB, 220, .inl u_4))] H := hP
  have hD : va_D A [(a 0, .inr (11, [.ref (a 1), .ref (a 2), .ref (a 3), .ref (a 4), .ref (a 5), .ref (a 6), .ref (a 7), .ref (a 8), .ref (a 9), .ref (a 10), .ref (a 11), .ref (a 12), .int 100])), (a 1, .inr (8, [.ref (a 17), .int 4])), (a 17, .inl (cB, 220, .inl u_4))] := hD
  refine lv_aload_n hx hb dX11_feed_22 rfl (lv_at hl 0 rfl) ?_
  refine va_get (D := D) (ci := 11) (v := .ref (a 1)) (C := RX11) (T := TX11) (N := 13) hx hb hts inT_X11 hown hK.1 hP 0 rfl rfl 0 (by decide) (hts _ k_483) (fun _ h9 => h9) rfl dX11_feed_23 ?_
  refine lv_iload_n hx hb dX11_feed_26 rfl (lv_at hl 2 rfl) ?_
  refine eWv (wr := [(a 0, .inr (11, [.ref (a 1), .ref (a 2), .ref (a 3), .ref (a 4), .ref (a 5), .ref (a 6), .ref (a 7), .ref (a 8), .ref (a 9), .ref (a 10), .ref (a 11), .ref (a 12), .int 100]))]) (va_runV (As := [.int n2]) (rest := []) ⟨hx, hb, hml, hown, hts⟩ (c_X8_put_4 l D cI cB cZ cJ tx a u_4 n2 H.size) (zV hts k_543 v_X8_put ⟨Nat.le_of_ble_eq_true rfl, Nat.le_of_ble_eq_true rfl⟩) (pV (pxS hK hP hD [1, 2] (by decide) rfl) hK hP 1 rfl rfl) rfl rfl hl.1 rfl (lv_room (Nat.le_of_ble_eq_true rfl)) dX11_feed_27 ⟨Nat.le_of_ble_eq_true rfl, Nat.le_of_ble_eq_true rfl⟩) hP hD hS hA [1, 2] [0] rfl rfl (by decide) (by decide) (fun u_6 H locs wr_5 hP hD hS => ?_)
  have hP : va_P D vwCl [(a 0, .inr (11, [.ref (a 1), .ref (a 2), .ref (a 3), .ref (a 4), .ref (a 5), .ref (a 6), .ref (a 7), .ref (a 8), .ref (a 9), .ref (a 10), .ref (a 11), .ref (a 12), .int 100])), (a 1, .inr (8, [.ref (a 17), .int 8])), (a 17, .inl (cB, 220, .inl u_6))] H := hP
  have hD : va_D A [(a 0, .inr (11, [.ref (a 1), .ref (a 2), .ref (a 3), .ref (a 4), .ref (a 5), .ref (a 6), .ref (a 7), .ref (a 8), .ref (a 9), .ref (a 10), .ref (a 11), .ref (a 12), .int 100])), (a 1, .inr (8, [.ref (a 17), .int 8])), (a 17, .inl (cB, 220, .inl u_6))] := hD
  refine lv_aload_n hx hb dX11_feed_30 rfl (lv_at hl 0 rfl) ?_
  refine va_get (D := D) (ci := 11) (v := .ref (a 1)) (C := RX11) (T := TX11) (N := 13) hx hb hts inT_X11 hown hK.1 hP 0 rfl rfl 0 (by decide) (hts _ k_483) (fun _ h9 => h9) rfl dX11_feed_31 ?_
  refine lv_iload_n hx hb dX11_feed_34 rfl (lv_at hl 3 rfl) ?_
  refine eWv (wr := [(a 0, .inr (11, [.ref (a 1), .ref (a 2), .ref (a 3), .ref (a 4), .ref (a 5), .ref (a 6), .ref (a 7), .ref (a 8), .ref (a 9), .ref (a 10), .ref (a 11), .ref (a 12), .int 100]))]) (va_runV (As := [.int n3]) (rest := []) ⟨hx, hb, hml, hown, hts⟩ (c_X8_put_8 l D cI cB cZ cJ tx a u_6 n3 H.size) (zV hts k_543 v_X8_put ⟨Nat.le_of_ble_eq_true rfl, Nat.le_of_ble_eq_true rfl⟩) (pV (pxS hK hP hD [1, 2] (by decide) rfl) hK hP 1 rfl rfl) rfl rfl hl.1 rfl (lv_room (Nat.le_of_ble_eq_true rfl)) dX11_feed_35 ⟨Nat.le_of_ble_eq_true rfl, Nat.le_of_ble_eq_true rfl⟩) hP hD hS hA [1, 2] [0] rfl rfl (by decide) (by decide) (fun u_8 H locs wr_7 hP hD hS => ?_)
  have hP : va_P D vwCl [(a 0, .inr (11, [.ref (a 1), .ref (a 2), .ref (a 3), .ref (a 4), .ref (a 5), .ref (a 6), .ref (a 7), .ref (a 8), .ref (a 9), .ref (a 10), .ref (a 11), .ref (a 12), .int 100])), (a 1, .inr (8, [.ref (a 17), .int 12])), (a 17, .inl (cB, 220, .inl u_8))] H := hP
  have hD : va_D A [(a 0, .inr (11, [.ref (a 1), .ref (a 2), .ref (a 3), .ref (a 4), .ref (a 5), .ref (a 6), .ref (a 7), .ref (a 8), .ref (a 9), .ref (a 10), .ref (a 11), .ref (a 12), .int 100])), (a 1, .inr (8, [.ref (a 17), .int 12])), (a 17, .inl (cB, 220, .inl u_8))] := hD
  refine lv_aload_n hx hb dX11_feed_38 rfl (lv_at hl 0 rfl) ?_
  refine va_get (D := D) (ci := 11) (v := .ref (a 1)) (C := RX11) (T := TX11) (N := 13) hx hb hts inT_X11 hown hK.1 hP 0 rfl rfl 0 (by decide) (hts _ k_483) (fun _ h9 => h9) rfl dX11_feed_39 ?_
  refine lv_iload hx hb dX11_feed_42 (lv_at hl 4 rfl) ?_
  refine eWv (wr := [(a 0, .inr (11, [.ref (a 1), .ref (a 2), .ref (a 3), .ref (a 4), .ref (a 5), .ref (a 6), .ref (a 7), .ref (a 8), .ref (a 9), .ref (a 10), .ref (a 11), .ref (a 12), .int 100]))]) (va_runV (As := [.int n4]) (rest := []) ⟨hx, hb, hml, hown, hts⟩ (c_X8_put_12 l D cI cB cZ cJ tx a u_8 n4 H.size) (zV hts k_543 v_X8_put ⟨Nat.le_of_ble_eq_true rfl, Nat.le_of_ble_eq_true rfl⟩) (pV (pxS hK hP hD [1, 2] (by decide) rfl) hK hP 1 rfl rfl) rfl rfl hl.1 rfl (lv_room (Nat.le_of_ble_eq_true rfl)) dX11_feed_44 ⟨Nat.le_of_ble_eq_true rfl, Nat.le_of_ble_eq_true rfl⟩) hP hD hS hA [1, 2] [0] rfl rfl (by decide) (by decide) (fun u_10 H locs wr_9 hP hD hS => ?_)
  have hP : va_P D vwCl [(a 0, .inr (11, [.ref (a 1), .ref (a 2), .ref (a 3), .ref (a 4), .ref (a 5), .ref (a 6), .ref (a 7), .ref (a 8), .ref (a 9), .ref (a 10), .ref (a 11), .ref (a 12), .int 100])), (a 1, .inr (8, [.ref (a 17), .int 16])), (a 17, .inl (cB, 220, .inl u_10))] H := hP
  have hD : va_D A [(a 0, .inr (11, [.ref (a 1), .ref (a 2), .ref (a 3), .ref (a 4), .ref (a 5), .ref (a 6), .ref (a 7), .ref (a 8), .ref (a 9), .ref (a 10), .ref (a 11), .ref (a 12), .int 100])), (a 1, .inr (8, [.ref (a 17), .int 16])), (a 17, .inl (cB, 220, .inl u_10))] := hD
  refine lv_aload_n hx hb dX11_feed_47 rfl (lv_at hl 0 rfl) ?_
  refine va_get (D := D) (ci := 11) (v := .ref (a 1)) (C := RX11) (T := TX11) (N := 13) hx hb hts inT_X11 hown hK.1 hP 0 rfl rfl 0 (by decide) (hts _ k_483) (fun _ h9 => h9) rfl dX11_feed_48 ?_
  refine lv_iload hx hb dX11_feed_51 (lv_at hl 5 rfl) ?_
  refine eWv (wr := [(a 0, .inr (11, [.ref (a 1), .ref (a 2), .ref (a 3), .ref (a 4), .ref (a 5), .ref (a 6), .ref (a 7), .ref (a 8), .ref (a 9), .ref (a 10), .ref (a 11), .ref (a 12), .int 100]))]) (va_runV (As := [.int n5]) (rest := []) ⟨hx, hb, hml, hown, hts⟩ (c_X8_put_16 l D cI cB cZ cJ tx a u_10 n5 H.size) (zV hts k_543 v_X8_put ⟨Nat.le_of_ble_eq_true rfl, Nat.le_of_ble_eq_true rfl⟩) (pV (pxS hK hP hD [1, 2] (by decide) rfl) hK hP 1 rfl rfl) rfl rfl hl.1 rfl (lv_room (Nat.le_of_ble_eq_true rfl)) dX11_feed_53 ⟨Nat.le_of_ble_eq_true rfl, Nat.le_of_ble_eq_true rfl⟩) hP hD hS hA [1, 2] [0] rfl rfl (by decide) (by decide) (fun u_12 H locs wr_11 hP hD hS => ?_)
  have hP : va_P D vwCl [(a 0, .inr (11, [.ref (a 1), .ref (a 2), .ref (a 3), .ref (a 4), .ref (a 5), .ref (a 6), .ref (a 7), .ref (a 8), .ref (a 9), .ref (a 10), .ref (a 11), .ref (a 12), .int 100])), (a 1, .inr (8, [.ref (a 17), .int 20])), (a 17, .inl (cB, 220, .inl u_12))] H := hP
  have hD : va_D A [(a 0, .inr (11, [.ref (a 1), .ref (a 2), .ref (a 3), .ref (a 4), .ref (a 5), .ref (a 6), .ref (a 7), .ref (a 8), .ref (a 9), .ref (a 10), .ref (a 11), .ref (a 12), .int 100])), (a 1, .inr (8, [.ref (a 17), .int 20])), (a 17, .inl (cB, 220, .inl u_12))] := hD
  refine lv_aload_n hx hb dX11_feed_56 rfl (lv_at hl 0 rfl) ?_
  refine va_get (D := D) (ci := 11) (v := .ref (a 1)) (C := RX11) (T := TX11) (N := 13) hx hb hts inT_X11 hown hK.1 hP 0 rfl rfl 0 (by decide) (hts _ k_483) (fun _ h9 => h9) rfl dX11_feed_57 ?_
  refine va_getN (D := D) (ci := 8) (v := .int 20) (C := RX8) (T := TX8) (N := 2) hx hb hts inT_X8 hown hK.1 hP 1 rfl rfl 1 (by decide) (va_Nw.use rfl (hK.2.2.1 _ n_152)) (fun _ h9 => h9) rfl dX11_feed_60 ?_
  exact W.iret (v := 20) hx hb hr (fun t ht hW => ⟨⟨(20 : Int32), (), rfl, (lf_X11_feed_13 a n1 n2 n3 n4 n5), bx0⟩, hS.F ht⟩) hS.2.2 dX11_feed_63 hlocks

theorem lf_X11_readText_3 (a : Nat → Nat) (n0 : Int32) (n1 : Int32) (qs : Nat) (c_2 : ¬ ((1 : Int32) ≤ n1 ∧ n1 ≤ 200)) : ((-1) : Int32) = -1 := by
  first | rfl | (simp only [bi]; rw [if_pos (by grind)]; done) | (simp only [bi]; rw [if_neg (by grind)]; done) | grind
theorem lf_X11_readText_5 (a : Nat → Nat) (n0 : Int32) (n1 : Int32) (qs : Nat) (c_2 : (1 : Int32) ≤ n1 ∧ n1 ≤ 200) (c_4 : n1 ≤ 0) : False := by
  first | rfl | (simp only [bi]; rw [if_pos (by grind)]; done) | (simp only [bi]; rw [if_neg (by grind)]; done) | grind
theorem lf_X11_readText_6 (a : Nat → Nat) (n0 : Int32) (n1 : Int32) (qs : Nat) (c_2 : (1 : Int32) ≤ n1 ∧ n1 ≤ 200) (c_4 : ¬ n1 ≤ 0) : ((-1) : Int32) = -1 := by
  first | rfl | (simp only [bi]; rw [if_pos (by grind)]; done) | (simp only [bi]; rw [if_neg (by grind)]; done) | grind
set_option maxHeartbeats 4000000 in
set_option maxRecDepth 100000 in
theorem c_X11_readText (l : Launch) (D : va_G) (cI cB cZ cJ : ClassId) (tx : List (ClassId × FieldType)) (a : Nat → Nat) (n0 : Int32) (n1 : Int32) (qs : Nat) : WrI l D cI cB cZ cJ tx yX11_readText cX11_readText 6 (some .int) 1 0 0 [.ref (a 0), .int n0, .int n1, .ref qs] [(a 0, .inr (11, [.ref (a 1), .ref (a 2), .ref (a 3), .ref (a 4), .ref (a 5), .ref (a 6), .ref (a 7), .ref (a 8), .ref (a 9), .ref (a 10), .ref (a 11), .ref (a 12), .int 100])), (a 1, .inr (8, [.ref (a 17), .int 0]))] (fun (r : Int32) (_ : Unit) => r = -1) (fun _ => []) := by
  refine wri_of2 (by decide) (Nat.le_of_ble_eq_true rfl) ?_
  intro p e s m below meth c A ls H locs hC hK hP hD hA hS hl
  obtain ⟨hx, hb, hr, hml, hown, hts, hlocks, hin⟩ := hC
  have hown : s.vm.findClass RX11 = some m.cls := hown
  have hl : lv_has ls 6 [(0, .ref (a 0)), (1, .int n0), (2, .int n1), (3, .ref qs)] := hl
  refine lv_iload_n hx hb dX11_readText_0 rfl (lv_at hl 2 rfl) ?_
  refine lv_iconst (v := 1) hx hb dX11_readText_1 (by decide) ?_
  refine lv_sipush (v := 200) hx hb dX11_readText_2 (by decide) ?_
  refine eRi (va_runS (As := [.int n1, .int 1, .int 200]) (rest := []) ⟨hx, hb, hml, hown, hts⟩ (c_X11_within l D cI cB cZ cJ tx n1 1 200 H.size) (zS hts k_527 v_X11_within ⟨Nat.le_of_ble_eq_true rfl, Nat.le_of_ble_eq_true rfl⟩) (px0 hK) rfl rfl hl.1 rfl (lv_room (Nat.le_of_ble_eq_true rfl)) dX11_readText_5 ⟨Nat.le_of_ble_eq_true rfl, Nat.le_of_ble_eq_true rfl⟩) hP hS hA (fun r_1 H locs wr_1 hP hS => ?_)
  subst wr_1
  refine lv_bi_eq (tgt := 22) hx hb dX11_readText_8 (by decide) (fun c_2 => ?_) (fun c_2 => ?_)
  · refine lv_iconst (v := (-1)) hx hb dX11_readText_22 (by decide) ?_
    exact W.iret (v := (-1)) hx hb hr (fun t ht hW => ⟨⟨((-1) : Int32), (), rfl, (lf_X11_readText_3 a n0 n1 qs c_2), bx0⟩, hS.F ht⟩) hS.2.2 dX11_readText_23 hlocks
  · refine lv_iload_n hx hb dX11_readText_11 rfl (lv_at hl 2 rfl) ?_
    refine lv_aload_n hx hb dX11_readText_12 rfl (lv_at hl 0 rfl) ?_
    refine va_get (D := D) (ci := 11) (v := .ref (a 1)) (C := RX11) (T := TX11) (N := 13) hx hb hts inT_X11 hown hK.1 hP 0 rfl rfl 0 (by decide) (hts _ k_483) (fun _ h9 => h9) rfl dX11_readText_13 ?_
    refine va_getN (D := D) (ci := 8) (v := .int 0) (C := RX8) (T := TX8) (N := 2) hx hb hts inT_X8 hown hK.1 hP 1 rfl rfl 1 (by decide) (va_Nw.use rfl (hK.2.2.1 _ n_152)) (fun _ h9 => h9) rfl dX11_readText_16 ?_
    refine lv_icmp_le (tgt := 24) hx hb dX11_readText_19 (by decide) (fun c_4 => absurd (lf_X11_readText_5 a n0 n1 qs c_2 c_4) id) (fun c_4 => ?_)
    refine lv_iconst (v := (-1)) hx hb dX11_readText_22 (by decide) ?_
    exact W.iret (v := (-1)) hx hb hr (fun t ht hW => ⟨⟨((-1) : Int32), (), rfl, (lf_X11_readText_6 a n0 n1 qs c_2 c_4), bx0⟩, hS.F ht⟩) hS.2.2 dX11_readText_23 hlocks

theorem lf_X11_rule_4 (a : Nat → Nat) (n1 : Int32) : ((-1) : Int32) = -1 := by
  first | rfl | (simp only [bi]; rw [if_pos (by grind)]; done) | (simp only [bi]; rw [if_neg (by grind)]; done) | grind
set_option maxHeartbeats 4000000 in
set_option maxRecDepth 100000 in
theorem c_X11_rule (l : Launch) (D : va_G) (cI cB cZ cJ : ClassId) (tx : List (ClassId × FieldType)) (a : Nat → Nat) (n1 : Int32) : WrI l D cI cB cZ cJ tx yX11_rule cX11_rule 2 (some .int) 2 0 0 [.ref (a 0), .int n1] [(a 0, .inr (11, [.ref (a 1), .ref (a 2), .ref (a 3), .ref (a 4), .ref (a 5), .ref (a 6), .ref (a 7), .ref (a 8), .ref (a 9), .ref (a 10), .ref (a 11), .ref (a 12), .int 100])), (a 1, .inr (8, [.ref (a 17), .int 0]))] (fun (r : Int32) (_ : Unit) => r = -1) (fun _ => []) := by
  refine wri_of2 (by decide) (Nat.le_of_ble_eq_true rfl) ?_
  intro p e s m below meth c A ls H locs hC hK hP hD hA hS hl
  obtain ⟨hx, hb, hr, hml, hown, hts, hlocks, hin⟩ := hC
  have hown : s.vm.findClass RX11 = some m.cls := hown
  have hl : lv_has ls 2 [(0, .ref (a 0)), (1, .int n1)] := hl
  refine lv_aload_n hx hb dX11_rule_0 rfl (lv_at hl 0 rfl) ?_
  refine lv_iconst (v := 0) hx hb dX11_rule_1 (by decide) ?_
  refine lv_iload_n hx hb dX11_rule_2 rfl (lv_at hl 1 rfl) ?_
  obtain ⟨qs_1, hqs_1⟩ := hK.2.2.2.1.1
  refine va_ldcS hx hb hown hqs_1 dX11_rule_3 ?_
  refine eWi (wr := []) (va_runV (As := [.int 0, .int n1, .ref qs_1]) (rest := []) ⟨hx, hb, hml, hown, hts⟩ (c_X11_readText l D cI cB cZ cJ tx a 0 n1 qs_1 H.size) (zV hts k_552 v_X11_readText ⟨Nat.le_of_ble_eq_true rfl, Nat.le_of_ble_eq_true rfl⟩) (pV (pxS hK hP hD [0, 1] (by decide) rfl) hK hP 0 rfl rfl) rfl rfl hl.1 rfl (lv_room (Nat.le_of_ble_eq_true rfl)) dX11_rule_5 ⟨Nat.le_of_ble_eq_true rfl, Nat.le_of_ble_eq_true rfl⟩) hP hD hS hA [0, 1] [] rfl rfl (by decide) (by decide) (fun r_2 u_3 H locs wr_2 hP hD hS => ?_)
  have hP : va_P D vwCl [] H := hP
  have hD : va_D A [] := hD
  subst wr_2
  exact W.iret (v := (-1)) hx hb hr (fun t ht hW => ⟨⟨((-1) : Int32), (), rfl, (lf_X11_rule_4 a n1), bx0⟩, hS.F ht⟩) hS.2.2 dX11_rule_8 hlocks

theorem lf_X11_sand_4 (a : Nat → Nat) (n1 : Int32) : ((-1) : Int32) = -1 := by
  first | rfl | (simp only [bi]; rw [if_pos (by grind)]; done) | (simp only [bi]; rw [if_neg (by grind)]; done) | grind
set_option maxHeartbeats 4000000 in
set_option maxRecDepth 100000 in
theorem c_X11_sand (l : Launch) (D : va_G) (cI cB cZ cJ : ClassId) (tx : List (ClassId × FieldType)) (a : Nat → Nat) (n1 : Int32) : WrI l D cI cB cZ cJ tx yX11_sand cX11_sand 2 (some .int) 2 0 0 [.ref (a 0), .int n1] [(a 0, .inr (11, [.ref (a 1), .ref (a 2), .ref (a 3), .ref (a 4), .ref (a 5), .ref (a 6), .ref (a 7), .ref (a 8), .ref (a 9), .ref (a 10), .ref (a 11), .ref (a 12), .int 100])), (a 1, .inr (8, [.ref (a 17), .int 0]))] (fun (r : Int32) (_ : Unit) => r = -1) (fun _ => []) := by
  refine wri_of2 (by decide) (Nat.le_of_ble_eq_true rfl) ?_
  intro p e s m below meth c A ls H locs hC hK hP hD hA hS hl
  obtain ⟨hx, hb, hr, hml, hown, hts, hlocks, hin⟩ := hC
  have hown : s.vm.findClass RX11 = some m.cls := hown
  have hl : lv_has ls 2 [(0, .ref (a 0)), (1, .int n1)] := hl
  refine lv_aload_n hx hb dX11_sand_0 rfl (lv_at hl 0 rfl) ?_
  refine lv_iconst (v := 1) hx hb dX11_sand_1 (by decide) ?_
  refine lv_iload_n hx hb dX11_sand_2 rfl (lv_at hl 1 rfl) ?_
  obtain ⟨qs_1, hqs_1⟩ := hK.2.2.2.1.2.1
  refine va_ldcS hx hb hown hqs_1 dX11_sand_3 ?_
  refine eWi (wr := []) (va_runV (As := [.int 1, .int n1, .ref qs_1]) (rest := []) ⟨hx, hb, hml, hown, hts⟩ (c_X11_readText l D cI cB cZ cJ tx a 1 n1 qs_1 H.size) (zV hts k_552 v_X11_readText ⟨Nat.le_of_ble_eq_true rfl, Nat.le_of_ble_eq_true rfl⟩) (pV (pxS hK hP hD [0, 1] (by decide) rfl) hK hP 0 rfl rfl) rfl rfl hl.1 rfl (lv_room (Nat.le_of_ble_eq_true rfl)) dX11_sand_5 ⟨Nat.le_of_ble_eq_true rfl, Nat.le_of_ble_eq_true rfl⟩) hP hD hS hA [0, 1] [] rfl rfl (by decide) (by decide) (fun r_2 u_3 H locs wr_2 hP hD hS => ?_)
  have hP : va_P D vwCl [] H := hP
  have hD : va_D A [] := hD
  subst wr_2
  exact W.iret (v := (-1)) hx hb hr (fun t ht hW => ⟨⟨((-1) : Int32), (), rfl, (lf_X11_sand_4 a n1), bx0⟩, hS.F ht⟩) hS.2.2 dX11_sand_8 hlocks

theorem lf_X11_stain_4 (a : Nat → Nat) (n1 : Int32) : ((-1) : Int32) = -1 := by
  first | rfl | (simp only [bi]; rw [if_pos (by grind)]; done) | (simp only [bi]; rw [if_neg (by grind)]; done) | grind
set_option maxHeartbeats 4000000 in
set_option maxRecDepth 100000 in
theorem c_X11_stain (l : Launch) (D : va_G) (cI cB cZ cJ : ClassId) (tx : List (ClassId × FieldType)) (a : Nat → Nat) (n1 : Int32) : WrI l D cI cB cZ cJ tx yX11_stain cX11_stain 2 (some .int) 2 0 0 [.ref (a 0), .int n1] [(a 0, .inr (11, [.ref (a 1), .ref (a 2), .ref (a 3), .ref (a 4), .ref (a 5), .ref (a 6), .ref (a 7), .ref (a 8), .ref (a 9), .ref (a 10), .ref (a 11), .ref (a 12), .int 100])), (a 1, .inr (8, [.ref (a 17), .int 0]))] (fun (r : Int32) (_ : Unit) => r = -1) (fun _ => []) := by
  refine wri_of2 (by decide) (Nat.le_of_ble_eq_true rfl) ?_
  intro p e s m below meth c A ls H locs hC hK hP hD hA hS hl
  obtain ⟨hx, hb, hr, hml, hown, hts, hlocks, hin⟩ := hC
  have hown : s.vm.findClass RX11 = some m.cls := hown
  have hl : lv_has ls 2 [(0, .ref (a 0)), (1, .int n1)] := hl
  refine lv_aload_n hx hb dX11_stain_0 rfl (lv_at hl 0 rfl) ?_
  refine lv_iconst (v := 2) hx hb dX11_stain_1 (by decide) ?_
  refine lv_iload_n hx hb dX11_stain_2 rfl (lv_at hl 1 rfl) ?_
  obtain ⟨qs_1, hqs_1⟩ := hK.2.2.2.1.2.2
  refine va_ldcS hx hb hown hqs_1 dX11_stain_3 ?_
  refine eWi (wr := []) (va_runV (As := [.int 2, .int n1, .ref qs_1]) (rest := []) ⟨hx, hb, hml, hown, hts⟩ (c_X11_readText l D cI cB cZ cJ tx a 2 n1 qs_1 H.size) (zV hts k_552 v_X11_readText ⟨Nat.le_of_ble_eq_true rfl, Nat.le_of_ble_eq_true rfl⟩) (pV (pxS hK hP hD [0, 1] (by decide) rfl) hK hP 0 rfl rfl) rfl rfl hl.1 rfl (lv_room (Nat.le_of_ble_eq_true rfl)) dX11_stain_5 ⟨Nat.le_of_ble_eq_true rfl, Nat.le_of_ble_eq_true rfl⟩) hP hD hS hA [0, 1] [] rfl rfl (by decide) (by decide) (fun r_2 u_3 H locs wr_2 hP hD hS => ?_)
  have hP : va_P D vwCl [] H := hP
  have hD : va_D A [] := hD
  subst wr_2
  exact W.iret (v := (-1)) hx hb hr (fun t ht hW => ⟨⟨((-1) : Int32), (), rfl, (lf_X11_stain_4 a n1), bx0⟩, hS.F ht⟩) hS.2.2 dX11_stain_8 hlocks

theorem lf_X11_mound_3 (a : Nat → Nat) (n1 : Int32) (n2 : Int32) (c_2 : ¬ ((0 : Int32) ≤ n1 ∧ n1 ≤ 23)) : (0 : Int32) = bi ((0 ≤ n1 ∧ n1 ≤ 23) ∧ 0 ≤ n2 ∧ n2 ≤ 1000) := by
  first | rfl | (simp only [bi]; rw [if_pos (by grind)]; done) | (simp only [bi]; rw [if_neg (by grind)]; done) | grind
theorem lf_X11_mound_6 (a : Nat → Nat) (n1 : Int32) (n2 : Int32) (c_2 : (0 : Int32) ≤ n1 ∧ n1 ≤ 23) (c_5 : (0 : Int32) ≤ n2 ∧ n2 ≤ 1000) : vp_in n1 24 := by
  first | (unfold vp_in; decide) | (exact vp_in1 24 (by decide) rfl ‹_›)
theorem lf_X11_mound_8 (a : Nat → Nat) (n1 : Int32) (n2 : Int32) (c_2 : (0 : Int32) ≤ n1 ∧ n1 ≤ 23) (c_5 : (0 : Int32) ≤ n2 ∧ n2 ≤ 1000) : (1 : Int32) = bi ((0 ≤ n1 ∧ n1 ≤ 23) ∧ 0 ≤ n2 ∧ n2 ≤ 1000) := by
  first | rfl | (simp only [bi]; rw [if_pos (by grind)]; done) | (simp only [bi]; rw [if_neg (by grind)]; done) | grind
theorem lf_X11_mound_9 (a : Nat → Nat) (n1 : Int32) (n2 : Int32) (c_2 : (0 : Int32) ≤ n1 ∧ n1 ≤ 23) (c_5 : ¬ ((0 : Int32) ≤ n2 ∧ n2 ≤ 1000)) : (0 : Int32) = bi ((0 ≤ n1 ∧ n1 ≤ 23) ∧ 0 ≤ n2 ∧ n2 ≤ 1000) := by
  first | rfl | (simp only [bi]; rw [if_pos (by grind)]; done) | (simp only [bi]; rw [if_neg (by grind)]; done) | grind
set_option maxHeartbeats 4000000 in
set_option maxRecDepth 100000 in
theorem c_X11_mound (l : Launch) (D : va_G) (cI cB cZ cJ : ClassId) (tx : List (ClassId × FieldType)) (a : Nat → Nat) (n1 : Int32) (n2 : Int32) : WrI l D cI cB cZ cJ tx yX11_mound cX11_mound 3 (some .boolean) 1 0 0 [.ref (a 0), .int n1, .int n2] [(a 0, .inr (11, [.ref (a 1), .ref (a 2), .ref (a 3), .ref (a 4), .ref (a 5), .ref (a 6), .ref (a 7), .ref (a 8), .ref (a 9), .ref (a 10), .ref (a 11), .ref (a 12), .int 100])), (a 5, .inr (4, [.ref (a 18), .ref (a 19), .ref (a 20), .ref (a 21), .ref (a 22), .ref (a 23), .ref (a 24), .int 0, .int 0, .int 0, .int 1])), (a 22, .inl (cI, 24, .inl (fun _ => 0)))] (fun (r : Int32) (_ : Unit) => r = bi ((0 ≤ n1 ∧ n1 ≤ 23) ∧ 0 ≤ n2 ∧ n2 ≤ 1000)) (fun _ => []) := by
  refine wri_of2 (by decide) (Nat.le_of_ble_eq_true rfl) ?_
  intro p e s m below meth c A ls H locs hC hK hP hD hA hS hl
  obtain ⟨hx, hb, hr, hml, hown, hts, hlocks, hin⟩ := hC
  have hown : s.vm.findClass RX11 = some m.cls := hown
  have hl : lv_has ls 3 [(0, .ref (a 0)), (1, .int n1), (2, .int n2)] := hl
  refine lv_iload_n hx hb dX11_mound_0 rfl (lv_at hl 1 rfl) ?_
  refine lv_iconst (v := 0) hx hb dX11_mound_1 (by decide) ?_
  refine lv_bipush (v := 23) hx hb dX11_mound_2 (by decide) ?_
  refine eRi (va_runS (As := [.int n1, .int 0, .int 23]) (rest := []) ⟨hx, hb, hml, hown, hts⟩ (c_X11_within l D cI cB cZ cJ tx n1 0 23 H.size) (zS hts k_527 v_X11_within ⟨Nat.le_of_ble_eq_true rfl, Nat.le_of_ble_eq_true rfl⟩) (px0 hK) rfl rfl hl.1 rfl (lv_room (Nat.le_of_ble_eq_true rfl)) dX11_mound_4 ⟨Nat.le_of_ble_eq_true rfl, Nat.le_of_ble_eq_true rfl⟩) hP hS hA (fun r_1 H locs wr_1 hP hS => ?_)
  subst wr_1
  refine lv_bi_eq (tgt := 21) hx hb dX11_mound_7 (by decide) (fun c_2 => ?_) (fun c_2 => ?_)
  · refine lv_iconst (v := 0) hx hb dX11_mound_21 (by decide) ?_
    exact W.zret (v := 0) hx hb hr (by decide) (fun t ht hW => ⟨⟨(0 : Int32), (), rfl, (lf_X11_mound_3 a n1 n2 c_2), bx0⟩, hS.F ht⟩) hS.2.2 dX11_mound_22 hlocks
  · refine lv_iload_n hx hb dX11_mound_10 rfl (lv_at hl 2 rfl) ?_
    refine lv_iconst (v := 0) hx hb dX11_mound_11 (by decide) ?_
    refine lv_sipush (v := 1000) hx hb dX11_mound_12 (by decide) ?_
    refine eRi (va_runS (As := [.int n2, .int 0, .int 1000]) (rest := []) ⟨hx, hb, hml, hown, hts⟩ (c_X11_within l D cI cB cZ cJ tx n2 0 1000 H.size) (zS hts k_527 v_X11_within ⟨Nat.le_of_ble_eq_true rfl, Nat.le_of_ble_eq_true rfl⟩) (px0 hK) rfl rfl hl.1 rfl (lv_room (Nat.le_of_ble_eq_true rfl)) dX11_mound_15 ⟨Nat.le_of_ble_eq_true rfl, Nat.le_of_ble_eq_true rfl⟩) hP hS hA (fun r_4 H locs wr_4 hP hS => ?_)
    subst wr_4
    refine lv_bi_ne (tgt := 23) hx hb dX11_mound_18 (by decide) (fun c_5 => ?_) (fun c_5 => ?_)
    · refine lv_aload_n hx hb dX11_mound_23 rfl (lv_at hl 0 rfl) ?_
      refine va_get (D := D) (ci := 11) (v := .ref (a 5)) (C := RX11) (T := TX11) (N := 13) hx hb hts inT_X11 hown hK.1 hP 0 rfl rfl 4 (by decide) (hts _ k_487) (fun _ h9 => h9) rfl dX11_mound_24 ?_
      refine va_getN (D := D) (ci := 4) (v := .ref (a 22)) (C := RX4) (T := TX4) (N := 11) hx hb hts inT_X4 hown hK.1 hP 1 rfl rfl 4 (by decide) (va_Nw.use rfl (hK.2.2.1 _ n_244)) (fun _ h9 => h9) rfl dX11_mound_27 ?_
      refine lv_iload_n hx hb dX11_mound_30 rfl (lv_at hl 1 rfl) ?_
      refine lv_iload_n hx hb dX11_mound_31 rfl (lv_at hl 2 rfl) ?_
      refine st_i hx hb hK hP hD hS 2 rfl (lf_X11_mound_6 a n1 n2 c_2 c_5) dX11_mound_32 (fun f_7 H locs hP hD hS => ?_)
      have hP : va_P D vwCl [(a 0, .inr (11, [.ref (a 1), .ref (a 2), .ref (a 3), .ref (a 4), .ref (a 5), .ref (a 6), .ref (a 7), .ref (a 8), .ref (a 9), .ref (a 10), .ref (a 11), .ref (a 12), .int 100])), (a 5, .inr (4, [.ref (a 18), .ref (a 19), .ref (a 20), .ref (a 21), .ref (a 22), .ref (a 23), .ref (a 24), .int 0, .int 0, .int 0, .int 1])), (a 22, .inl (cI, 24, .inl f_7))] H := hP
      have hD : va_D A [(a 0, .inr (11, [.ref (a 1), .ref (a 2), .ref (a 3), .ref (a 4), .ref (a 5), .ref (a 6), .ref (a 7), .ref (a 8), .ref (a 9), .ref (a 10), .ref (a 11), .ref (a 12), .int 100])), (a 5, .inr (4, [.ref (a 18), .ref (a 19), .ref (a 20), .ref (a 21), .ref (a 22), .ref (a 23), .ref (a 24), .int 0, .int 0, .int 0, .int 1])), (a 22, .inl (cI, 24, .inl f_7))] := hD
      refine lv_iconst (v := 1) hx hb dX11_mound_33 (by decide) ?_
      exact W.zret (v := 1) hx hb hr (by decide) (fun t ht hW => ⟨⟨(1 : Int32), (), rfl, (lf_X11_mound_8 a n1 n2 c_2 c_5), bx0⟩, hS.F ht⟩) hS.2.2 dX11_mound_34 hlocks
    · refine lv_iconst (v := 0) hx hb dX11_mound_21 (by decide) ?_
      exact W.zret (v := 0) hx hb hr (by decide) (fun t ht hW => ⟨⟨(0 : Int32), (), rfl, (lf_X11_mound_9 a n1 n2 c_2 c_5), bx0⟩, hS.F ht⟩) hS.2.2 dX11_mound_22 hlocks

theorem lf_X11_bury_2 (a : Nat → Nat) (n1 : Int32) : ((-1) : Int32) = -1 := by
  first | rfl | (simp only [bi]; rw [if_pos (by grind)]; done) | (simp only [bi]; rw [if_neg (by grind)]; done) | grind
set_option maxHeartbeats 4000000 in
set_option maxRecDepth 100000 in
theorem c_X11_bury (l : Launch) (D : va_G) (cI cB cZ cJ : ClassId) (tx : List (ClassId × FieldType)) (a : Nat → Nat) (n1 : Int32) : WrI l D cI cB cZ cJ tx yX11_bury cX11_bury 2 (some .int) 1 0 0 [.ref (a 0), .int n1] [(a 0, .inr (11, [.ref (a 1), .ref (a 2), .ref (a 3), .ref (a 4), .ref (a 5), .ref (a 6), .ref (a 7), .ref (a 8), .ref (a 9), .ref (a 10), .ref (a 11), .ref (a 12), .int 100])), (a 5, .inr (4, [.ref (a 18), .ref (a 19), .ref (a 20), .ref (a 21), .ref (a 22), .ref (a 23), .ref (a 24), .int 0, .int 0, .int 0, .int 1]))] (fun (r : Int32) (_ : Unit) => r = -1) (fun _ => []) := by
  refine wri_of2 (by decide) (Nat.le_of_ble_eq_true rfl) ?_
  intro p e s m below meth c A ls H locs hC hK hP hD hA hS hl
  obtain ⟨hx, hb, hr, hml, hown, hts, hlocks, hin⟩ := hC
  have hown : s.vm.findClass RX11 = some m.cls := hown
  have hl : lv_has ls 2 [(0, .ref (a 0)), (1, .int n1)] := hl
  refine lv_aload_n hx hb dX11_bury_0 rfl (lv_at hl 0 rfl) ?_
  refine va_get (D := D) (ci := 11) (v := .ref (a 5)) (C := RX11) (T := TX11) (N := 13) hx hb hts inT_X11 hown hK.1 hP 0 rfl rfl 4 (by decide) (hts _ k_487) (fun _ h9 => h9) rfl dX11_bury_1 ?_
  refine eRi (va_runV (As := []) (rest := []) ⟨hx, hb, hml, hown, hts⟩ (c_X4_stands l D cI cB cZ cJ tx a H.size) (zV hts k_824 v_X4_stands ⟨Nat.le_of_ble_eq_true rfl, Nat.le_of_ble_eq_true rfl⟩) (pV (px1 hK hP 1 rfl) hK hP 1 rfl rfl) rfl rfl hl.1 rfl (lv_room (Nat.le_of_ble_eq_true rfl)) dX11_bury_4 ⟨Nat.le_of_ble_eq_true rfl, Nat.le_of_ble_eq_true rfl⟩) hP hS hA (fun r_1 H locs wr_1 hP hS => ?_)
  subst wr_1
  refine lv_if_eq (tgt := 20) hx hb dX11_bury_7 (by decide) (fun _ => ?_) (fun c => absurd c (by decide))
  refine lv_iconst (v := (-1)) hx hb dX11_bury_20 (by decide) ?_
  exact W.iret (v := (-1)) hx hb hr (fun t ht hW => ⟨⟨((-1) : Int32), (), rfl, (lf_X11_bury_2 a n1), bx0⟩, hS.F ht⟩) hS.2.2 dX11_bury_21 hlocks

theorem lf_X11_lies_2 (a : Nat → Nat) (n1 : Int32) (n2 : Int32) (n3 : Int32) (n4 : Int32) (n5 : Int32) : (0 : Int32) = 0 := by
  first | rfl | (simp only [bi]; rw [if_pos (by grind)]; done) | (simp only [bi]; rw [if_neg (by grind)]; done) | grind
set_option maxHeartbeats 4000000 in
set_option maxRecDepth 100000 in
theorem c_X11_lies (l : Launch) (D : va_G) (cI cB cZ cJ : ClassId) (tx : List (ClassId × FieldType)) (a : Nat → Nat) (n1 : Int32) (n2 : Int32) (n3 : Int32) (n4 : Int32) (n5 : Int32) : WrI l D cI cB cZ cJ tx yX11_lies cX11_lies 7 (some .boolean) 2 0 0 [.ref (a 0), .int n1, .int n2, .int n3, .int n4, .int n5] [(a 0, .inr (11, [.ref (a 1), .ref (a 2), .ref (a 3), .ref (a 4), .ref (a 5), .ref (a 6), .ref (a 7), .ref (a 8), .ref (a 9), .ref (a 10), .ref (a 11), .ref (a 12), .int 100])), (a 5, .inr (4, [.ref (a 18), .ref (a 19), .ref (a 20), .ref (a 21), .ref (a 22), .ref (a 23), .ref (a 24), .int 0, .int 0, .int 0, .int 1]))] (fun (r : Int32) (_ : Unit) => r = 0) (fun _ => []) := by
  refine wri_of2 (by decide) (Nat.le_of_ble_eq_true rfl) ?_
  intro p e s m below meth c A ls H locs hC hK hP hD hA hS hl
  obtain ⟨hx, hb, hr, hml, hown, hts, hlocks, hin⟩ := hC
  have hown : s.vm.findClass RX11 = some m.cls := hown
  have hl : lv_has ls 7 [(0, .ref (a 0)), (1, .int n1), (2, .int n2), (3, .int n3), (4, .int n4), (5, .int n5)] := hl
  refine lv_aload_n hx hb dX11_lies_0 rfl (lv_at hl 0 rfl) ?_
  refine va_get (D := D) (ci := 11) (v := .ref (a 5)) (C := RX11) (T := TX11) (N := 13) hx hb hts inT_X11 hown hK.1 hP 0 rfl rfl 4 (by decide) (hts _ k_487) (fun _ h9 => h9) rfl dX11_lies_1 ?_
  refine lv_iload_n hx hb dX11_lies_4 rfl (lv_at hl 1 rfl) ?_
  refine lv_iload_n hx hb dX11_lies_5 rfl (lv_at hl 2 rfl) ?_
  refine lv_iload_n hx hb dX11_lies_6 rfl (lv_at hl 3 rfl) ?_
  refine eRi (va_runV (As := [.int n1, .int n2, .int n3]) (rest := []) ⟨hx, hb, hml, hown, hts⟩ (c_X4_rivetAt l D cI cB cZ cJ tx a n1 n2 n3 H.size) (zV hts k_850 v_X4_rivetAt ⟨Nat.le_of_ble_eq_true rfl, Nat.le_of_ble_eq_true rfl⟩) (pV (px1 hK hP 1 rfl) hK hP 1 rfl rfl) rfl rfl hl.1 rfl (lv_room (Nat.le_of_ble_eq_true rfl)) dX11_lies_7 ⟨Nat.le_of_ble_eq_true rfl, Nat.le_of_ble_eq_true rfl⟩) hP hS hA (fun r_1 H locs wr_1 hP hS => ?_)
  subst wr_1
  refine lv_istore (lv' := [(6, .int (-1)), (0, .ref (a 0)), (1, .int n1), (2, .int n2), (3, .int n3), (4, .int n4), (5, .int n5)]) hx hb dX11_lies_10 hl (by decide) rfl (fun ls hl => ?_)
  refine lv_iload hx hb dX11_lies_12 (lv_at hl 0 rfl) ?_
  refine lv_if_lt (tgt := 45) hx hb dX11_lies_14 (by decide) (fun _ => ?_) (fun c => absurd c (by decide))
  refine lv_iconst (v := 0) hx hb dX11_lies_45 (by decide) ?_
  exact W.zret (v := 0) hx hb hr (by decide) (fun t ht hW => ⟨⟨(0 : Int32), (), rfl, (lf_X11_lies_2 a n1 n2 n3 n4 n5), bx0⟩, hS.F ht⟩) hS.2.2 dX11_lies_46 hlocks

theorem lf_X11_gone_2 (a : Nat → Nat) (n1 : Int32) (n2 : Int32) (n3 : Int32) : (0 : Int32) = 0 := by
  first | rfl | (simp only [bi]; rw [if_pos (by grind)]; done) | (simp only [bi]; rw [if_neg (by grind)]; done) | grind
set_option maxHeartbeats 4000000 in
set_option maxRecDepth 100000 in
theorem c_X11_gone (l : Launch) (D : va_G) (cI cB cZ cJ : ClassId) (tx : List (ClassId × FieldType)) (a : Nat → Nat) (n1 : Int32) (n2 : Int32) (n3 : Int32) : WrI l D cI cB cZ cJ tx yX11_gone cX11_gone 5 (some .boolean) 2 0 0 [.ref (a 0), .int n1, .int n2, .int n3] [(a 0, .inr (11, [.ref (a 1), .ref (a 2), .ref (a 3), .ref (a 4), .ref (a 5), .ref (a 6), .ref (a 7), .ref (a 8), .ref (a 9), .ref (a 10), .ref (a 11), .ref (a 12), .int 100])), (a 5, .inr (4, [.ref (a 18), .ref (a 19), .ref (a 20), .ref (a 21), .ref (a 22), .ref (a 23), .ref (a 24), .int 0, .int 0, .int 0, .int 1]))] (fun (r : Int32) (_ : Unit) => r = 0) (fun _ => []) := by
  refine wri_of2 (by decide) (Nat.le_of_ble_eq_true rfl) ?_
  intro p e s m below meth c A ls H locs hC hK hP hD hA hS hl
  obtain ⟨hx, hb, hr, hml, hown, hts, hlocks, hin⟩ := hC
  have hown : s.vm.findClass RX11 = some m.cls := hown
  have hl : lv_has ls 5 [(0, .ref (a 0)), (1, .int n1), (2, .int n2), (3, .int n3)] := hl
  refine lv_aload_n hx hb dX11_gone_0 rfl (lv_at hl 0 rfl) ?_
  refine va_get (D := D) (ci := 11) (v := .ref (a 5)) (C := RX11) (T := TX11) (N := 13) hx hb hts inT_X11 hown hK.1 hP 0 rfl rfl 4 (by decide) (hts _ k_487) (fun _ h9 => h9) rfl dX11_gone_1 ?_
  refine lv_iload_n hx hb dX11_gone_4 rfl (lv_at hl 1 rfl) ?_
  refine lv_iload_n hx hb dX11_gone_5 rfl (lv_at hl 2 rfl) ?_
  refine lv_iload_n hx hb dX11_gone_6 rfl (lv_at hl 3 rfl) ?_
  refine eRi (va_runV (As := [.int n1, .int n2, .int n3]) (rest := []) ⟨hx, hb, hml, hown, hts⟩ (c_X4_rivetAt l D cI cB cZ cJ tx a n1 n2 n3 H.size) (zV hts k_850 v_X4_rivetAt ⟨Nat.le_of_ble_eq_true rfl, Nat.le_of_ble_eq_true rfl⟩) (pV (px1 hK hP 1 rfl) hK hP 1 rfl rfl) rfl rfl hl.1 rfl (lv_room (Nat.le_of_ble_eq_true rfl)) dX11_gone_7 ⟨Nat.le_of_ble_eq_true rfl, Nat.le_of_ble_eq_true rfl⟩) hP hS hA (fun r_1 H locs wr_1 hP hS => ?_)
  subst wr_1
  refine lv_istore (lv' := [(4, .int (-1)), (0, .ref (a 0)), (1, .int n1), (2, .int n2), (3, .int n3)]) hx hb dX11_gone_10 hl (by decide) rfl (fun ls hl => ?_)
  refine lv_iload hx hb dX11_gone_12 (lv_at hl 0 rfl) ?_
  refine lv_if_lt (tgt := 30) hx hb dX11_gone_14 (by decide) (fun _ => ?_) (fun c => absurd c (by decide))
  refine lv_iconst (v := 0) hx hb dX11_gone_30 (by decide) ?_
  exact W.zret (v := 0) hx hb hr (by decide) (fun t ht hW => ⟨⟨(0 : Int32), (), rfl, (lf_X11_gone_2 a n1 n2 n3), bx0⟩, hS.F ht⟩) hS.2.2 dX11_gone_31 hlocks

theorem lf_X11_rivet_2 (a : Nat → Nat) (n1 : Int32) (n2 : Int32) (n3 : Int32) (n4 : Int32) : ((-10000) : Int32) = -10000 := by
  first | rfl | (simp only [bi]; rw [if_pos (by grind)]; done) | (simp only [bi]; rw [if_neg (by grind)]; done) | grind
set_option maxHeartbeats 4000000 in
set_option maxRecDepth 100000 in
theorem c_X11_rivet (l : Launch) (D : va_G) (cI cB cZ cJ : ClassId) (tx : List (ClassId × FieldType)) (a : Nat → Nat) (n1 : Int32) (n2 : Int32) (n3 : Int32) (n4 : Int32) : WrI l D cI cB cZ cJ tx yX11_rivet cX11_rivet 6 (some .int) 2 0 0 [.ref (a 0), .int n1, .int n2, .int n3, .int n4] [(a 0, .inr (11, [.ref (a 1), .ref (a 2), .ref (a 3), .ref (a 4), .ref (a 5), .ref (a 6), .ref (a 7), .ref (a 8), .ref (a 9), .ref (a 10), .ref (a 11), .ref (a 12), .int 100])), (a 5, .inr (4, [.ref (a 18), .ref (a 19), .ref (a 20), .ref (a 21), .ref (a 22), .ref (a 23), .ref (a 24), .int 0, .int 0, .int 0, .int 1]))] (fun (r : Int32) (_ : Unit) => r = -10000) (fun _ => []) := by
  refine wri_of2 (by decide) (Nat.le_of_ble_eq_true rfl) ?_
  intro p e s m below meth c A ls H locs hC hK hP hD hA hS hl
  obtain ⟨hx, hb, hr, hml, hown, hts, hlocks, hin⟩ := hC
  have hown : s.vm.findClass RX11 = some m.cls := hown
  have hl : lv_has ls 6 [(0, .ref (a 0)), (1, .int n1), (2, .int n2), (3, .int n3), (4, .int n4)] := hl
  refine lv_aload_n hx hb dX11_rivet_0 rfl (lv_at hl 0 rfl) ?_
  refine va_get (D := D) (ci := 11) (v := .ref (a 5)) (C := RX11) (T := TX11) (N := 13) hx hb hts inT_X11 hown hK.1 hP 0 rfl rfl 4 (by decide) (hts _ k_487) (fun _ h9 => h9) rfl dX11_rivet_1 ?_
  refine lv_iload_n hx hb dX11_rivet_4 rfl (lv_at hl 1 rfl) ?_
  refine lv_iload_n hx hb dX11_rivet_5 rfl (lv_at hl 2 rfl) ?_
  refine lv_iload_n hx hb dX11_rivet_6 rfl (lv_at hl 3 rfl) ?_
  refine eRi (va_runV (As := [.int n1, .int n2, .int n3]) (rest := []) ⟨hx, hb, hml, hown, hts⟩ (c_X4_rivetAt l D cI cB cZ cJ tx a n1 n2 n3 H.size) (zV hts k_850 v_X4_rivetAt ⟨Nat.le_of_ble_eq_true rfl, Nat.le_of_ble_eq_true rfl⟩) (pV (px1 hK hP 1 rfl) hK hP 1 rfl rfl) rfl rfl hl.1 rfl (lv_room (Nat.le_of_ble_eq_true rfl)) dX11_rivet_7 ⟨Nat.le_of_ble_eq_true rfl, Nat.le_of_ble_eq_true rfl⟩) hP hS hA (fun r_1 H locs wr_1 hP hS => ?_)
  subst wr_1
  refine lv_istore (lv' := [(5, .int (-1)), (0, .ref (a 0)), (1, .int n1), (2, .int n2), (3, .int n3), (4, .int n4)]) hx hb dX11_rivet_10 hl (by decide) rfl (fun ls hl => ?_)
  refine lv_iload hx hb dX11_rivet_12 (lv_at hl 0 rfl) ?_
  refine lv_if_ge (tgt := 21) hx hb dX11_rivet_14 (by decide) (fun c => absurd c (by decide)) (fun _ => ?_)
  refine lv_sipush (v := (-10000)) hx hb dX11_rivet_17 (by decide) ?_
  exact W.iret (v := (-10000)) hx hb hr (fun t ht hW => ⟨⟨((-10000) : Int32), (), rfl, (lf_X11_rivet_2 a n1 n2 n3 n4), bx0⟩, hS.F ht⟩) hS.2.2 dX11_rivet_20 hlocks

theorem lf_X11_cut_6 (a : Nat → Nat) (n1 : Int32) (x_2 : Int32) (ex_2 : x_2 = n1 &&& (-1)) (c_3 : x_2 = 0) : (1 : Int32) = bi (n1 = 0) := by
  simp only [Int32_and_m1] at *; first | rfl | (simp only [bi]; rw [if_pos (by grind)]; done) | (simp only [bi]; rw [if_neg (by grind)]; done) | grind
theorem lf_X11_cut_7 (a : Nat → Nat) (n1 : Int32) (x_2 : Int32) (ex_2 : x_2 = n1 &&& (-1)) (c_3 : ¬ x_2 = 0) : (0 : Int32) = bi (n1 = 0) := by
  simp only [Int32_and_m1] at *; first | rfl | (simp only [bi]; rw [if_pos (by grind)]; done) | (simp only [bi]; rw [if_neg (by grind)]; done) | grind
set_option maxHeartbeats 4000000 in
set_option maxRecDepth 100000 in
theorem c_X11_cut (l : Launch) (D : va_G) (cI cB cZ cJ : ClassId) (tx : List (ClassId × FieldType)) (a : Nat → Nat) (n1 : Int32) : WrI l D cI cB cZ cJ tx yX11_cut cX11_cut 2 (some .boolean) 2 0 0 [.ref (a 0), .int n1] [(a 0, .inr (11, [.ref (a 1), .ref (a 2), .ref (a 3), .ref (a 4), .ref (a 5), .ref (a 6), .ref (a 7), .ref (a 8), .ref (a 9), .ref (a 10), .ref (a 11), .ref (a 12), .int 100])), (a 5, .inr (4, [.ref (a 18), .ref (a 19), .ref (a 20), .ref (a 21), .ref (a 22), .ref (a 23), .ref (a 24), .int 0, .int 0, .int 0, .int 1])), (a 23, .inl (cI, 8, .inl (fun _ => 0)))] (fun (r : Int32) (_ : Unit) => r = bi (n1 = 0)) (fun _ => []) := by
  refine wri_of2 (by decide) (Nat.le_of_ble_eq_true rfl) ?_
  intro p e s m below meth c A ls H locs hC hK hP hD hA hS hl
  obtain ⟨hx, hb, hr, hml, hown, hts, hlocks, hin⟩ := hC
  have hown : s.vm.findClass RX11 = some m.cls := hown
  have hl : lv_has ls 2 [(0, .ref (a 0)), (1, .int n1)] := hl
  refine lv_iload_n hx hb dX11_cut_0 rfl (lv_at hl 1 rfl) ?_
  refine lv_aload_n hx hb dX11_cut_1 rfl (lv_at hl 0 rfl) ?_
  refine va_get (D := D) (ci := 11) (v := .ref (a 5)) (C := RX11) (T := TX11) (N := 13) hx hb hts inT_X11 hown hK.1 hP 0 rfl rfl 4 (by decide) (hts _ k_487) (fun _ h9 => h9) rfl dX11_cut_2 ?_
  refine eRi (va_runV (As := []) (rest := [.int n1]) ⟨hx, hb, hml, hown, hts⟩ (c_X4_allStations l D cI cB cZ cJ tx a H.size) (zV hts k_879 v_X4_allStations ⟨Nat.le_of_ble_eq_true rfl, Nat.le_of_ble_eq_true rfl⟩) (pV (px1 hK hP 1 rfl) hK hP 1 rfl rfl) rfl rfl hl.1 rfl (lv_room (Nat.le_of_ble_eq_true rfl)) dX11_cut_5 ⟨Nat.le_of_ble_eq_true rfl, Nat.le_of_ble_eq_true rfl⟩) hP hS hA (fun r_1 H locs wr_1 hP hS => ?_)
  subst wr_1
  refine lv_iconst (v := (-1)) hx hb dX11_cut_8 (by decide) ?_
  refine lv_ixor hx hb dX11_cut_9 ?_
  refine lv_topv (y := (-1)) (by decide) ?_
  refine lv_iand hx hb dX11_cut_10 ?_
  refine lv_topi (fun x_2 ex_2 => ?_)
  refine lv_if_eq (tgt := 16) hx hb dX11_cut_11 (by decide) (fun c_3 => ?_) (fun c_3 => ?_)
  · refine lv_aload_n hx hb dX11_cut_16 rfl (lv_at hl 0 rfl) ?_
    refine va_get (D := D) (ci := 11) (v := .ref (a 5)) (C := RX11) (T := TX11) (N := 13) hx hb hts inT_X11 hown hK.1 hP 0 rfl rfl 4 (by decide) (hts _ k_487) (fun _ h9 => h9) rfl dX11_cut_17 ?_
    refine lv_iload_n hx hb dX11_cut_20 rfl (lv_at hl 1 rfl) ?_
    refine eWv (wr := [(a 0, .inr (11, [.ref (a 1), .ref (a 2), .ref (a 3), .ref (a 4), .ref (a 5), .ref (a 6), .ref (a 7), .ref (a 8), .ref (a 9), .ref (a 10), .ref (a 11), .ref (a 12), .int 100]))]) (va_runV (As := [.int n1]) (rest := []) ⟨hx, hb, hml, hown, hts⟩ (c_X4_cutAway l D cI cB cZ cJ tx a 0 0 0 1 (fun _ => 0) n1 H.size) (zV hts k_883 v_X4_cutAway ⟨Nat.le_of_ble_eq_true rfl, Nat.le_of_ble_eq_true rfl⟩) (pV (pxS hK hP hD [1, 2] (by decide) rfl) hK hP 1 rfl rfl) rfl rfl hl.1 rfl (lv_room (Nat.le_of_ble_eq_true rfl)) dX11_cut_21 ⟨Nat.le_of_ble_eq_true rfl, Nat.le_of_ble_eq_true rfl⟩) hP hD hS hA [1, 2] [0] rfl rfl (by decide) (by decide) (fun u_5 H locs wr_4 hP hD hS => ?_)
    have hP : va_P D vwCl [(a 0, .inr (11, [.ref (a 1), .ref (a 2), .ref (a 3), .ref (a 4), .ref (a 5), .ref (a 6), .ref (a 7), .ref (a 8), .ref (a 9), .ref (a 10), .ref (a 11), .ref (a 12), .int 100]))] H := hP
    have hD : va_D A [(a 0, .inr (11, [.ref (a 1), .ref (a 2), .ref (a 3), .ref (a 4), .ref (a 5), .ref (a 6), .ref (a 7), .ref (a 8), .ref (a 9), .ref (a 10), .ref (a 11), .ref (a 12), .int 100]))] := hD
    refine lv_iconst (v := 1) hx hb dX11_cut_24 (by decide) ?_
    exact W.zret (v := 1) hx hb hr (by decide) (fun t ht hW => ⟨⟨(1 : Int32), (), rfl, (lf_X11_cut_6 a n1 x_2 ex_2 c_3), bx0⟩, hS.F ht⟩) hS.2.2 dX11_cut_25 hlocks
  · refine lv_iconst (v := 0) hx hb dX11_cut_14 (by decide) ?_
    exact W.zret (v := 0) hx hb hr (by decide) (fun t ht hW => ⟨⟨(0 : Int32), (), rfl, (lf_X11_cut_7 a n1 x_2 ex_2 c_3), bx0⟩, hS.F ht⟩) hS.2.2 dX11_cut_15 hlocks

theorem lf_X11_drawing_2 (a : Nat → Nat) (n1 : Int32) : ((-1) : Int32) = -1 := by
  first | rfl | (simp only [bi]; rw [if_pos (by grind)]; done) | (simp only [bi]; rw [if_neg (by grind)]; done) | grind
set_option maxHeartbeats 4000000 in
set_option maxRecDepth 100000 in
theorem c_X11_drawing (l : Launch) (D : va_G) (cI cB cZ cJ : ClassId) (tx : List (ClassId × FieldType)) (a : Nat → Nat) (n1 : Int32) : WrI l D cI cB cZ cJ tx yX11_drawing cX11_drawing 2 (some .int) 1 0 0 [.ref (a 0), .int n1] [(a 0, .inr (11, [.ref (a 1), .ref (a 2), .ref (a 3), .ref (a 4), .ref (a 5), .ref (a 6), .ref (a 7), .ref (a 8), .ref (a 9), .ref (a 10), .ref (a 11), .ref (a 12), .int 100])), (a 5, .inr (4, [.ref (a 18), .ref (a 19), .ref (a 20), .ref (a 21), .ref (a 22), .ref (a 23), .ref (a 24), .int 0, .int 0, .int 0, .int 1]))] (fun (r : Int32) (_ : Unit) => r = -1) (fun _ => []) := by
  refine wri_of2 (by decide) (Nat.le_of_ble_eq_true rfl) ?_
  intro p e s m below meth c A ls H locs hC hK hP hD hA hS hl
  obtain ⟨hx, hb, hr, hml, hown, hts, hlocks, hin⟩ := hC
  have hown : s.vm.findClass RX11 = some m.cls := hown
  have hl : lv_has ls 2 [(0, .ref (a 0)), (1, .int n1)] := hl
  refine lv_aload_n hx hb dX11_drawing_0 rfl (lv_at hl 0 rfl) ?_
  refine va_get (D := D) (ci := 11) (v := .ref (a 5)) (C := RX11) (T := TX11) (N := 13) hx hb hts inT_X11 hown hK.1 hP 0 rfl rfl 4 (by decide) (hts _ k_487) (fun _ h9 => h9) rfl dX11_drawing_1 ?_
  refine eRi (va_runV (As := []) (rest := []) ⟨hx, hb, hml, hown, hts⟩ (c_X4_stands l D cI cB cZ cJ tx a H.size) (zV hts k_824 v_X4_stands ⟨Nat.le_of_ble_eq_true rfl, Nat.le_of_ble_eq_true rfl⟩) (pV (px1 hK hP 1 rfl) hK hP 1 rfl rfl) rfl rfl hl.1 rfl (lv_room (Nat.le_of_ble_eq_true rfl)) dX11_drawing_4 ⟨Nat.le_of_ble_eq_true rfl, Nat.le_of_ble_eq_true rfl⟩) hP hS hA (fun r_1 H locs wr_1 hP hS => ?_)
  subst wr_1
  refine lv_if_eq (tgt := 21) hx hb dX11_drawing_7 (by decide) (fun _ => ?_) (fun c => absurd c (by decide))
  refine lv_iconst (v := (-1)) hx hb dX11_drawing_21 (by decide) ?_
  exact W.iret (v := (-1)) hx hb hr (fun t ht hW => ⟨⟨((-1) : Int32), (), rfl, (lf_X11_drawing_2 a n1), bx0⟩, hS.F ht⟩) hS.2.2 dX11_drawing_22 hlocks

theorem lf_X11_mark_2 (a : Nat → Nat) (n1 : Int32) (n2 : Int32) (n3 : Int32) (n4 : Int32) (n5 : Int32) (n6 : Int32) : (0 : Int32) = 0 := by
  first | rfl | (simp only [bi]; rw [if_pos (by grind)]; done) | (simp only [bi]; rw [if_neg (by grind)]; done) | grind
set_option maxHeartbeats 4000000 in
set_option maxRecDepth 100000 in
theorem c_X11_mark (l : Launch) (D : va_G) (cI cB cZ cJ : ClassId) (tx : List (ClassId × FieldType)) (a : Nat → Nat) (n1 : Int32) (n2 : Int32) (n3 : Int32) (n4 : Int32) (n5 : Int32) (n6 : Int32) : WrI l D cI cB cZ cJ tx yX11_mark cX11_mark 8 (some .boolean) 2 0 0 [.ref (a 0), .int n1, .int n2, .int n3, .int n4, .int n5, .int n6] [(a 0, .inr (11, [.ref (a 1), .ref (a 2), .ref (a 3), .ref (a 4), .ref (a 5), .ref (a 6), .ref (a 7), .ref (a 8), .ref (a 9), .ref (a 10), .ref (a 11), .ref (a 12), .int 100])), (a 5, .inr (4, [.ref (a 18), .ref (a 19), .ref (a 20), .ref (a 21), .ref (a 22), .ref (a 23), .ref (a 24), .int 0, .int 0, .int 0, .int 1]))] (fun (r : Int32) (_ : Unit) => r = 0) (fun _ => []) := by
  refine wri_of2 (by decide) (Nat.le_of_ble_eq_true rfl) ?_
  intro p e s m below meth c A ls H locs hC hK hP hD hA hS hl
  obtain ⟨hx, hb, hr, hml, hown, hts, hlocks, hin⟩ := hC
  have hown : s.vm.findClass RX11 = some m.cls := hown
  have hl : lv_has ls 8 [(0, .ref (a 0)), (1, .int n1), (2, .int n2), (3, .int n3), (4, .int n4), (5, .int n5), (6, .int n6)] := hl
  refine lv_aload_n hx hb dX11_mark_0 rfl (lv_at hl 0 rfl) ?_
  refine va_get (D := D) (ci := 11) (v := .ref (a 5)) (C := RX11) (T := TX11) (N := 13) hx hb hts inT_X11 hown hK.1 hP 0 rfl rfl 4 (by decide) (hts _ k_487) (fun _ h9 => h9) rfl dX11_mark_1 ?_
  refine lv_iload_n hx hb dX11_mark_4 rfl (lv_at hl 2 rfl) ?_
  refine lv_iload_n hx hb dX11_mark_5 rfl (lv_at hl 3 rfl) ?_
  refine lv_iload hx hb dX11_mark_6 (lv_at hl 4 rfl) ?_
  refine eRi (va_runV (As := [.int n2, .int n3, .int n4]) (rest := []) ⟨hx, hb, hml, hown, hts⟩ (c_X4_rivetAt l D cI cB cZ cJ tx a n2 n3 n4 H.size) (zV hts k_850 v_X4_rivetAt ⟨Nat.le_of_ble_eq_true rfl, Nat.le_of_ble_eq_true rfl⟩) (pV (px1 hK hP 1 rfl) hK hP 1 rfl rfl) rfl rfl hl.1 rfl (lv_room (Nat.le_of_ble_eq_true rfl)) dX11_mark_8 ⟨Nat.le_of_ble_eq_true rfl, Nat.le_of_ble_eq_true rfl⟩) hP hS hA (fun r_1 H locs wr_1 hP hS => ?_)
  subst wr_1
  refine lv_istore (lv' := [(7, .int (-1)), (0, .ref (a 0)), (1, .int n1), (2, .int n2), (3, .int n3), (4, .int n4), (5, .int n5), (6, .int n6)]) hx hb dX11_mark_11 hl (by decide) rfl (fun ls hl => ?_)
  refine lv_iload hx hb dX11_mark_13 (lv_at hl 0 rfl) ?_
  refine lv_if_lt (tgt := 57) hx hb dX11_mark_15 (by decide) (fun _ => ?_) (fun c => absurd c (by decide))
  refine lv_iconst (v := 0) hx hb dX11_mark_57 (by decide) ?_
  exact W.zret (v := 0) hx hb hr (by decide) (fun t ht hW => ⟨⟨(0 : Int32), (), rfl, (lf_X11_mark_2 a n1 n2 n3 n4 n5 n6), bx0⟩, hS.F ht⟩) hS.2.2 dX11_mark_58 hlocks

theorem lf_X11_draw_2 (a : Nat → Nat) (n1 : Int32) (n2 : Int32) (n3 : Int32) (n4 : Int32) : ((-1) : Int32) = -1 := by
  first | rfl | (simp only [bi]; rw [if_pos (by grind)]; done) | (simp only [bi]; rw [if_neg (by grind)]; done) | grind
set_option maxHeartbeats 4000000 in
set_option maxRecDepth 100000 in
theorem c_X11_draw (l : Launch) (D : va_G) (cI cB cZ cJ : ClassId) (tx : List (ClassId × FieldType)) (a : Nat → Nat) (n1 : Int32) (n2 : Int32) (n3 : Int32) (n4 : Int32) : WrI l D cI cB cZ cJ tx yX11_draw cX11_draw 5 (some .int) 2 0 0 [.ref (a 0), .int n1, .int n2, .int n3, .int n4] [(a 0, .inr (11, [.ref (a 1), .ref (a 2), .ref (a 3), .ref (a 4), .ref (a 5), .ref (a 6), .ref (a 7), .ref (a 8), .ref (a 9), .ref (a 10), .ref (a 11), .ref (a 12), .int 100])), (a 6, .inr (0, [.ref (a 5), .ref (a 25), .ref (a 26), .ref (a 27), .ref (a 28), .ref (a 29), .int 0]))] (fun (r : Int32) (_ : Unit) => r = -1) (fun _ => []) := by
  refine wri_of2 (by decide) (Nat.le_of_ble_eq_true rfl) ?_
  intro p e s m below meth c A ls H locs hC hK hP hD hA hS hl
  obtain ⟨hx, hb, hr, hml, hown, hts, hlocks, hin⟩ := hC
  have hown : s.vm.findClass RX11 = some m.cls := hown
  have hl : lv_has ls 5 [(0, .ref (a 0)), (1, .int n1), (2, .int n2), (3, .int n3), (4, .int n4)] := hl
  refine lv_aload_n hx hb dX11_draw_0 rfl (lv_at hl 0 rfl) ?_
  refine va_get (D := D) (ci := 11) (v := .ref (a 6)) (C := RX11) (T := TX11) (N := 13) hx hb hts inT_X11 hown hK.1 hP 0 rfl rfl 5 (by decide) (hts _ k_488) (fun _ h9 => h9) rfl dX11_draw_1 ?_
  refine lv_iload_n hx hb dX11_draw_4 rfl (lv_at hl 1 rfl) ?_
  refine eRi (va_runV (As := [.int n1]) (rest := []) ⟨hx, hb, hml, hown, hts⟩ (c_X0_has l D cI cB cZ cJ tx a n1 H.size) (zV hts k_899 v_X0_has ⟨Nat.le_of_ble_eq_true rfl, Nat.le_of_ble_eq_true rfl⟩) (pV (px1 hK hP 1 rfl) hK hP 1 rfl rfl) rfl rfl hl.1 rfl (lv_room (Nat.le_of_ble_eq_true rfl)) dX11_draw_5 ⟨Nat.le_of_ble_eq_true rfl, Nat.le_of_ble_eq_true rfl⟩) hP hS hA (fun r_1 H locs wr_1 hP hS => ?_)
  subst wr_1
  refine lv_if_eq (tgt := 49) hx hb dX11_draw_8 (by decide) (fun _ => ?_) (fun c => absurd c (by decide))
  refine lv_iconst (v := (-1)) hx hb dX11_draw_49 (by decide) ?_
  exact W.iret (v := (-1)) hx hb hr (fun t ht hW => ⟨⟨((-1) : Int32), (), rfl, (lf_X11_draw_2 a n1 n2 n3 n4), bx0⟩, hS.F ht⟩) hS.2.2 dX11_draw_50 hlocks

theorem lf_X11_marked_2 (a : Nat → Nat) (n1 : Int32) (n2 : Int32) (n3 : Int32) (n4 : Int32) (n5 : Int32) : ((-10000) : Int32) = -10000 := by
  first | rfl | (simp only [bi]; rw [if_pos (by grind)]; done) | (simp only [bi]; rw [if_neg (by grind)]; done) | grind
set_option maxHeartbeats 4000000 in
set_option maxRecDepth 100000 in
theorem c_X11_marked (l : Launch) (D : va_G) (cI cB cZ cJ : ClassId) (tx : List (ClassId × FieldType)) (a : Nat → Nat) (n1 : Int32) (n2 : Int32) (n3 : Int32) (n4 : Int32) (n5 : Int32) : WrI l D cI cB cZ cJ tx yX11_marked cX11_marked 7 (some .int) 2 0 0 [.ref (a 0), .int n1, .int n2, .int n3, .int n4, .int n5] [(a 0, .inr (11, [.ref (a 1), .ref (a 2), .ref (a 3), .ref (a 4), .ref (a 5), .ref (a 6), .ref (a 7), .ref (a 8), .ref (a 9), .ref (a 10), .ref (a 11), .ref (a 12), .int 100])), (a 5, .inr (4, [.ref (a 18), .ref (a 19), .ref (a 20), .ref (a 21), .ref (a 22), .ref (a 23), .ref (a 24), .int 0, .int 0, .int 0, .int 1]))] (fun (r : Int32) (_ : Unit) => r = -10000) (fun _ => []) := by
  refine wri_of2 (by decide) (Nat.le_of_ble_eq_true rfl) ?_
  intro p e s m below meth c A ls H locs hC hK hP hD hA hS hl
  obtain ⟨hx, hb, hr, hml, hown, hts, hlocks, hin⟩ := hC
  have hown : s.vm.findClass RX11 = some m.cls := hown
  have hl : lv_has ls 7 [(0, .ref (a 0)), (1, .int n1), (2, .int n2), (3, .int n3), (4, .int n4), (5, .int n5)] := hl
  refine lv_aload_n hx hb dX11_marked_0 rfl (lv_at hl 0 rfl) ?_
  refine va_get (D := D) (ci := 11) (v := .ref (a 5)) (C := RX11) (T := TX11) (N := 13) hx hb hts inT_X11 hown hK.1 hP 0 rfl rfl 4 (by decide) (hts _ k_487) (fun _ h9 => h9) rfl dX11_marked_1 ?_
  refine lv_iload_n hx hb dX11_marked_4 rfl (lv_at hl 2 rfl) ?_
  refine lv_iload_n hx hb dX11_marked_5 rfl (lv_at hl 3 rfl) ?_
  refine lv_iload hx hb dX11_marked_6 (lv_at hl 4 rfl) ?_
  refine eRi (va_runV (As := [.int n2, .int n3, .int n4]) (rest := []) ⟨hx, hb, hml, hown, hts⟩ (c_X4_rivetAt l D cI cB cZ cJ tx a n2 n3 n4 H.size) (zV hts k_850 v_X4_rivetAt ⟨Nat.le_of_ble_eq_true rfl, Nat.le_of_ble_eq_true rfl⟩) (pV (px1 hK hP 1 rfl) hK hP 1 rfl rfl) rfl rfl hl.1 rfl (lv_room (Nat.le_of_ble_eq_true rfl)) dX11_marked_8 ⟨Nat.le_of_ble_eq_true rfl, Nat.le_of_ble_eq_true rfl⟩) hP hS hA (fun r_1 H locs wr_1 hP hS => ?_)
  subst wr_1
  refine lv_istore (lv' := [(6, .int (-1)), (0, .ref (a 0)), (1, .int n1), (2, .int n2), (3, .int n3), (4, .int n4), (5, .int n5)]) hx hb dX11_marked_11 hl (by decide) rfl (fun ls hl => ?_)
  refine lv_iload hx hb dX11_marked_13 (lv_at hl 0 rfl) ?_
  refine lv_if_lt (tgt := 41) hx hb dX11_marked_15 (by decide) (fun _ => ?_) (fun c => absurd c (by decide))
  refine lv_sipush (v := (-10000)) hx hb dX11_marked_41 (by decide) ?_
  exact W.iret (v := (-10000)) hx hb hr (fun t ht hW => ⟨⟨((-10000) : Int32), (), rfl, (lf_X11_marked_2 a n1 n2 n3 n4 n5), bx0⟩, hS.F ht⟩) hS.2.2 dX11_marked_44 hlocks

theorem lf_X11_joined_2 (a : Nat → Nat) (n1 : Int32) (n2 : Int32) (n3 : Int32) : ((-1000000) : Int32) = -1000000 := by
  first | rfl | (simp only [bi]; rw [if_pos (by grind)]; done) | (simp only [bi]; rw [if_neg (by grind)]; done) | grind
set_option maxHeartbeats 4000000 in
set_option maxRecDepth 100000 in
theorem c_X11_joined (l : Launch) (D : va_G) (cI cB cZ cJ : ClassId) (tx : List (ClassId × FieldType)) (a : Nat → Nat) (n1 : Int32) (n2 : Int32) (n3 : Int32) : WrI l D cI cB cZ cJ tx yX11_joined cX11_joined 5 (some .int) 3 0 0 [.ref (a 0), .int n1, .int n2, .int n3] [(a 0, .inr (11, [.ref (a 1), .ref (a 2), .ref (a 3), .ref (a 4), .ref (a 5), .ref (a 6), .ref (a 7), .ref (a 8), .ref (a 9), .ref (a 10), .ref (a 11), .ref (a 12), .int 100])), (a 6, .inr (0, [.ref (a 5), .ref (a 25), .ref (a 26), .ref (a 27), .ref (a 28), .ref (a 29), .int 0]))] (fun (r : Int32) (_ : Unit) => r = -1000000) (fun _ => []) := by
  refine wri_of2 (by decide) (Nat.le_of_ble_eq_true rfl) ?_
  intro p e s m below meth c A ls H locs hC hK hP hD hA hS hl
  obtain ⟨hx, hb, hr, hml, hown, hts, hlocks, hin⟩ := hC
  have hown : s.vm.findClass RX11 = some m.cls := hown
  have hl : lv_has ls 5 [(0, .ref (a 0)), (1, .int n1), (2, .int n2), (3, .int n3)] := hl
  refine lv_aload_n hx hb dX11_joined_0 rfl (lv_at hl 0 rfl) ?_
  refine va_get (D := D) (ci := 11) (v := .ref (a 6)) (C := RX11) (T := TX11) (N := 13) hx hb hts inT_X11 hown hK.1 hP 0 rfl rfl 5 (by decide) (hts _ k_488) (fun _ h9 => h9) rfl dX11_joined_1 ?_
  refine lv_iload_n hx hb dX11_joined_4 rfl (lv_at hl 1 rfl) ?_
  refine lv_iload_n hx hb dX11_joined_5 rfl (lv_at hl 2 rfl) ?_
  refine eRi (va_runV (As := [.int n1, .int n2]) (rest := []) ⟨hx, hb, hml, hown, hts⟩ (c_X0_areTwo l D cI cB cZ cJ tx a n1 n2 H.size) (zV hts k_942 v_X0_areTwo ⟨Nat.le_of_ble_eq_true rfl, Nat.le_of_ble_eq_true rfl⟩) (pV (px1 hK hP 1 rfl) hK hP 1 rfl rfl) rfl rfl hl.1 rfl (lv_room (Nat.le_of_ble_eq_true rfl)) dX11_joined_6 ⟨Nat.le_of_ble_eq_true rfl, Nat.le_of_ble_eq_true rfl⟩) hP hS hA (fun r_1 H locs wr_1 hP hS => ?_)
  subst wr_1
  refine lv_if_eq (tgt := 21) hx hb dX11_joined_9 (by decide) (fun _ => ?_) (fun c => absurd c (by decide))
  refine lv_ldc (v := (-1000000)) hx hb hown (hts _ k_946) dX11_joined_21 ?_
  exact W.iret (v := (-1000000)) hx hb hr (fun t ht hW => ⟨⟨((-1000000) : Int32), (), rfl, (lf_X11_joined_2 a n1 n2 n3), bx0⟩, hS.F ht⟩) hS.2.2 dX11_joined_23 hlocks

theorem lf_X11_off_2 (a : Nat → Nat) (n1 : Int32) (n2 : Int32) (n3 : Int32) : ((-1) : Int32) = -1 := by
  first | rfl | (simp only [bi]; rw [if_pos (by grind)]; done) | (simp only [bi]; rw [if_neg (by grind)]; done) | grind
set_option maxHeartbeats 4000000 in
set_option maxRecDepth 100000 in
theorem c_X11_off (l : Launch) (D : va_G) (cI cB cZ cJ : ClassId) (tx : List (ClassId × FieldType)) (a : Nat → Nat) (n1 : Int32) (n2 : Int32) (n3 : Int32) : WrI l D cI cB cZ cJ tx yX11_off cX11_off 4 (some .int) 3 0 0 [.ref (a 0), .int n1, .int n2, .int n3] [(a 0, .inr (11, [.ref (a 1), .ref (a 2), .ref (a 3), .ref (a 4), .ref (a 5), .ref (a 6), .ref (a 7), .ref (a 8), .ref (a 9), .ref (a 10), .ref (a 11), .ref (a 12), .int 100])), (a 6, .inr (0, [.ref (a 5), .ref (a 25), .ref (a 26), .ref (a 27), .ref (a 28), .ref (a 29), .int 0]))] (fun (r : Int32) (_ : Unit) => r = -1) (fun _ => []) := by
  refine wri_of2 (by decide) (Nat.le_of_ble_eq_true rfl) ?_
  intro p e s m below meth c A ls H locs hC hK hP hD hA hS hl
  obtain ⟨hx, hb, hr, hml, hown, hts, hlocks, hin⟩ := hC
  have hown : s.vm.findClass RX11 = some m.cls := hown
  have hl : lv_has ls 4 [(0, .ref (a 0)), (1, .int n1), (2, .int n2), (3, .int n3)] := hl
  refine lv_aload_n hx hb dX11_off_0 rfl (lv_at hl 0 rfl) ?_
  refine va_get (D := D) (ci := 11) (v := .ref (a 6)) (C := RX11) (T := TX11) (N := 13) hx hb hts inT_X11 hown hK.1 hP 0 rfl rfl 5 (by decide) (hts _ k_488) (fun _ h9 => h9) rfl dX11_off_1 ?_
  refine lv_iload_n hx hb dX11_off_4 rfl (lv_at hl 1 rfl) ?_
  refine lv_iload_n hx hb dX11_off_5 rfl (lv_at hl 2 rfl) ?_
  refine eRi (va_runV (As := [.int n1, .int n2]) (rest := []) ⟨hx, hb, hml, hown, hts⟩ (c_X0_areTwo l D cI cB cZ cJ tx a n1 n2 H.size) (zV hts k_942 v_X0_areTwo ⟨Nat.le_of_ble_eq_true rfl, Nat.le_of_ble_eq_true rfl⟩) (pV (px1 hK hP 1 rfl) hK hP 1 rfl rfl) rfl rfl hl.1 rfl (lv_room (Nat.le_of_ble_eq_true rfl)) dX11_off_6 ⟨Nat.le_of_ble_eq_true rfl, Nat.le_of_ble_eq_true rfl⟩) hP hS hA (fun r_1 H locs wr_1 hP hS => ?_)
  subst wr_1
  refine lv_if_eq (tgt := 35) hx hb dX11_off_9 (by decide) (fun _ => ?_) (fun c => absurd c (by decide))
  refine lv_iconst (v := (-1)) hx hb dX11_off_35 (by decide) ?_
  exact W.iret (v := (-1)) hx hb hr (fun t ht hW => ⟨⟨((-1) : Int32), (), rfl, (lf_X11_off_2 a n1 n2 n3), bx0⟩, hS.F ht⟩) hS.2.2 dX11_off_36 hlocks

theorem lf_X11_slipped_2 (a : Nat → Nat) (n1 : Int32) (n2 : Int32) (n3 : Int32) (n4 : Int32) (n5 : Int32) (n6 : Int32) : ((-1) : Int32) = -1 := by
  first | rfl | (simp only [bi]; rw [if_pos (by grind)]; done) | (simp only [bi]; rw [if_neg (by grind)]; done) | grind
set_option maxHeartbeats 4000000 in
set_option maxRecDepth 100000 in
theorem c_X11_slipped (l : Launch) (D : va_G) (cI cB cZ cJ : ClassId) (tx : List (ClassId × FieldType)) (a : Nat → Nat) (n1 : Int32) (n2 : Int32) (n3 : Int32) (n4 : Int32) (n5 : Int32) (n6 : Int32) : WrI l D cI cB cZ cJ tx yX11_slipped cX11_slipped 10 (some .int) 2 0 0 [.ref (a 0), .int n1, .int n2, .int n3, .int n4, .int n5, .int n6] [(a 0, .inr (11, [.ref (a 1), .ref (a 2), .ref (a 3), .ref (a 4), .ref (a 5), .ref (a 6), .ref (a 7), .ref (a 8), .ref (a 9), .ref (a 10), .ref (a 11), .ref (a 12), .int 100])), (a 5, .inr (4, [.ref (a 18), .ref (a 19), .ref (a 20), .ref (a 21), .ref (a 22), .ref (a 23), .ref (a 24), .int 0, .int 0, .int 0, .int 1]))] (fun (r : Int32) (_ : Unit) => r = -1) (fun _ => []) := by
  refine wri_of2 (by decide) (Nat.le_of_ble_eq_true rfl) ?_
  intro p e s m below meth c A ls H locs hC hK hP hD hA hS hl
  obtain ⟨hx, hb, hr, hml, hown, hts, hlocks, hin⟩ := hC
  have hown : s.vm.findClass RX11 = some m.cls := hown
  have hl : lv_has ls 10 [(0, .ref (a 0)), (1, .int n1), (2, .int n2), (3, .int n3), (4, .int n4), (5, .int n5), (6, .int n6)] := hl
  refine lv_aload_n hx hb dX11_slipped_0 rfl (lv_at hl 0 rfl) ?_
  refine va_get (D := D) (ci := 11) (v := .ref (a 5)) (C := RX11) (T := TX11) (N := 13) hx hb hts inT_X11 hown hK.1 hP 0 rfl rfl 4 (by decide) (hts _ k_487) (fun _ h9 => h9) rfl dX11_slipped_1 ?_
  refine lv_iload hx hb dX11_slipped_4 (lv_at hl 4 rfl) ?_
  refine lv_iload hx hb dX11_slipped_6 (lv_at hl 5 rfl) ?_
  refine lv_iload hx hb dX11_slipped_8 (lv_at hl 6 rfl) ?_
  refine eRi (va_runV (As := [.int n4, .int n5, .int n6]) (rest := []) ⟨hx, hb, hml, hown, hts⟩ (c_X4_rivetAt l D cI cB cZ cJ tx a n4 n5 n6 H.size) (zV hts k_850 v_X4_rivetAt ⟨Nat.le_of_ble_eq_true rfl, Nat.le_of_ble_eq_true rfl⟩) (pV (px1 hK hP 1 rfl) hK hP 1 rfl rfl) rfl rfl hl.1 rfl (lv_room (Nat.le_of_ble_eq_true rfl)) dX11_slipped_10 ⟨Nat.le_of_ble_eq_true rfl, Nat.le_of_ble_eq_true rfl⟩) hP hS hA (fun r_1 H locs wr_1 hP hS => ?_)
  subst wr_1
  refine lv_istore (lv' := [(7, .int (-1)), (0, .ref (a 0)), (1, .int n1), (2, .int n2), (3, .int n3), (4, .int n4), (5, .int n5), (6, .int n6)]) hx hb dX11_slipped_13 hl (by decide) rfl (fun ls hl => ?_)
  refine lv_iload hx hb dX11_slipped_15 (lv_at hl 0 rfl) ?_
  refine lv_if_lt (tgt := 35) hx hb dX11_slipped_17 (by decide) (fun _ => ?_) (fun c => absurd c (by decide))
  refine lv_iconst (v := (-1)) hx hb dX11_slipped_35 (by decide) ?_
  exact W.iret (v := (-1)) hx hb hr (fun t ht hW => ⟨⟨((-1) : Int32), (), rfl, (lf_X11_slipped_2 a n1 n2 n3 n4 n5 n6), bx0⟩, hS.F ht⟩) hS.2.2 dX11_slipped_36 hlocks

theorem lf_X11_span_2 (a : Nat → Nat) (n1 : Int32) (n2 : Int32) (n3 : Int32) (n4 : Int32) : ((-10000) : Int32) = -10000 := by
  first | rfl | (simp only [bi]; rw [if_pos (by grind)]; done) | (simp only [bi]; rw [if_neg (by grind)]; done) | grind
set_option maxHeartbeats 4000000 in
set_option maxRecDepth 100000 in
theorem c_X11_span (l : Launch) (D : va_G) (cI cB cZ cJ : ClassId) (tx : List (ClassId × FieldType)) (a : Nat → Nat) (n1 : Int32) (n2 : Int32) (n3 : Int32) (n4 : Int32) : WrI l D cI cB cZ cJ tx yX11_span cX11_span 5 (some .int) 1 0 0 [.ref (a 0), .int n1, .int n2, .int n3, .int n4] [(a 0, .inr (11, [.ref (a 1), .ref (a 2), .ref (a 3), .ref (a 4), .ref (a 5), .ref (a 6), .ref (a 7), .ref (a 8), .ref (a 9), .ref (a 10), .ref (a 11), .ref (a 12), .int 100])), (a 5, .inr (4, [.ref (a 18), .ref (a 19), .ref (a 20), .ref (a 21), .ref (a 22), .ref (a 23), .ref (a 24), .int 0, .int 0, .int 0, .int 1]))] (fun (r : Int32) (_ : Unit) => r = -10000) (fun _ => []) := by
  refine wri_of2 (by decide) (Nat.le_of_ble_eq_true rfl) ?_
  intro p e s m below meth c A ls H locs hC hK hP hD hA hS hl
  obtain ⟨hx, hb, hr, hml, hown, hts, hlocks, hin⟩ := hC
  have hown : s.vm.findClass RX11 = some m.cls := hown
  have hl : lv_has ls 5 [(0, .ref (a 0)), (1, .int n1), (2, .int n2), (3, .int n3), (4, .int n4)] := hl
  refine lv_iload_n hx hb dX11_span_0 rfl (lv_at hl 2 rfl) ?_
  refine lv_iconst (v := 0) hx hb dX11_span_1 (by decide) ?_
  refine lv_aload_n hx hb dX11_span_2 rfl (lv_at hl 0 rfl) ?_
  refine va_get (D := D) (ci := 11) (v := .ref (a 5)) (C := RX11) (T := TX11) (N := 13) hx hb hts inT_X11 hown hK.1 hP 0 rfl rfl 4 (by decide) (hts _ k_487) (fun _ h9 => h9) rfl dX11_span_3 ?_
  refine va_getN (D := D) (ci := 4) (v := .int 0) (C := RX4) (T := TX4) (N := 11) hx hb hts inT_X4 hown hK.1 hP 1 rfl rfl 7 (by decide) (va_Nw.use rfl (hK.2.2.1 _ n_254)) (fun _ h9 => h9) rfl dX11_span_6 ?_
  refine lv_iconst (v := 1) hx hb dX11_span_9 (by decide) ?_
  refine lv_isub hx hb dX11_span_10 ?_
  refine lv_topv (y := (-1)) (by decide) ?_
  refine eRi (va_runS (As := [.int n2, .int 0, .int (-1)]) (rest := []) ⟨hx, hb, hml, hown, hts⟩ (c_X11_within l D cI cB cZ cJ tx n2 0 (-1) H.size) (zS hts k_527 v_X11_within ⟨Nat.le_of_ble_eq_true rfl, Nat.le_of_ble_eq_true rfl⟩) (px0 hK) rfl rfl hl.1 rfl (lv_room (Nat.le_of_ble_eq_true rfl)) dX11_span_11 ⟨Nat.le_of_ble_eq_true rfl, Nat.le_of_ble_eq_true rfl⟩) hP hS hA (fun r_1 H locs wr_1 hP hS => ?_)
  subst wr_1
  refine lv_topv (y := 0) (bi_no (by decide)) ?_
  refine lv_if_eq (tgt := 39) hx hb dX11_span_14 (by decide) (fun _ => ?_) (fun c => absurd c (by decide))
  refine lv_sipush (v := (-10000)) hx hb dX11_span_39 (by decide) ?_
  exact W.iret (v := (-10000)) hx hb hr (fun t ht hW => ⟨⟨((-10000) : Int32), (), rfl, (lf_X11_span_2 a n1 n2 n3 n4), bx0⟩, hS.F ht⟩) hS.2.2 dX11_span_42 hlocks

theorem lf_X11_batten_3 (a : Nat → Nat) (n1 : Int32) (n2 : Int32) (n3 : Int32) (c_2 : ¬ (((-1) : Int32) ≤ n3 ∧ n3 ≤ (-1))) : ((-1000000) : Int64) = -1000000 := by
  first | rfl | (simp only [bi]; rw [if_pos (by grind)]; done) | (simp only [bi]; rw [if_neg (by grind)]; done) | grind
theorem lf_X11_batten_5 (a : Nat → Nat) (n1 : Int32) (n2 : Int32) (n3 : Int32) (c_2 : ((-1) : Int32) ≤ n3 ∧ n3 ≤ (-1)) : ((-1000000) : Int64) = -1000000 := by
  first | rfl | (simp only [bi]; rw [if_pos (by grind)]; done) | (simp only [bi]; rw [if_neg (by grind)]; done) | grind
set_option maxHeartbeats 4000000 in
set_option maxRecDepth 100000 in
theorem c_X11_batten (l : Launch) (D : va_G) (cI cB cZ cJ : ClassId) (tx : List (ClassId × FieldType)) (a : Nat → Nat) (n1 : Int32) (n2 : Int32) (n3 : Int32) : WrL l D cI cB cZ cJ tx yX11_batten cX11_batten 4 (some .long) 2 0 0 [.ref (a 0), .int n1, .int n2, .int n3] [(a 0, .inr (11, [.ref (a 1), .ref (a 2), .ref (a 3), .ref (a 4), .ref (a 5), .ref (a 6), .ref (a 7), .ref (a 8), .ref (a 9), .ref (a 10), .ref (a 11), .ref (a 12), .int 100])), (a 5, .inr (4, [.ref (a 18), .ref (a 19), .ref (a 20), .ref (a 21), .ref (a 22), .ref (a 23), .ref (a 24), .int 0, .int 0, .int 0, .int 1])), (a 7, .inr (2, [.ref (a 5), .ref (a 30), .ref (a 31), .ref (a 32), .ref (a 33), .ref (a 34), .ref (a 35), .ref (a 36), .ref (a 37), .ref (a 38), .ref (a 39), .ref (a 40)]))] (fun (r : Int64) (_ : Unit) => r = -1000000) (fun _ => []) := by
  refine wrl_of2 (by decide) (Nat.le_of_ble_eq_true rfl) ?_
  intro p e s m below meth c A ls H locs hC hK hP hD hA hS hl
  obtain ⟨hx, hb, hr, hml, hown, hts, hlocks, hin⟩ := hC
  have hown : s.vm.findClass RX11 = some m.cls := hown
  have hl : lv_has ls 4 [(0, .ref (a 0)), (1, .int n1), (2, .int n2), (3, .int n3)] := hl
  refine lv_iload_n hx hb dX11_batten_0 rfl (lv_at hl 3 rfl) ?_
  refine lv_iconst (v := (-1)) hx hb dX11_batten_1 (by decide) ?_
  refine lv_aload_n hx hb dX11_batten_2 rfl (lv_at hl 0 rfl) ?_
  refine va_get (D := D) (ci := 11) (v := .ref (a 5)) (C := RX11) (T := TX11) (N := 13) hx hb hts inT_X11 hown hK.1 hP 0 rfl rfl 4 (by decide) (hts _ k_487) (fun _ h9 => h9) rfl dX11_batten_3 ?_
  refine va_getN (D := D) (ci := 4) (v := .int 0) (C := RX4) (T := TX4) (N := 11) hx hb hts inT_X4 hown hK.1 hP 1 rfl rfl 7 (by decide) (va_Nw.use rfl (hK.2.2.1 _ n_254)) (fun _ h9 => h9) rfl dX11_batten_6 ?_
  refine lv_iconst (v := 1) hx hb dX11_batten_9 (by decide) ?_
  refine lv_isub hx hb dX11_batten_10 ?_
  refine lv_topv (y := (-1)) (by decide) ?_
  refine eRi (va_runS (As := [.int n3, .int (-1), .int (-1)]) (rest := []) ⟨hx, hb, hml, hown, hts⟩ (c_X11_within l D cI cB cZ cJ tx n3 (-1) (-1) H.size) (zS hts k_527 v_X11_within ⟨Nat.le_of_ble_eq_true rfl, Nat.le_of_ble_eq_true rfl⟩) (px0 hK) rfl rfl hl.1 rfl (lv_room (Nat.le_of_ble_eq_true rfl)) dX11_batten_11 ⟨Nat.le_of_ble_eq_true rfl, Nat.le_of_ble_eq_true rfl⟩) hP hS hA (fun r_1 H locs wr_1 hP hS => ?_)
  subst wr_1
  refine lv_bi_eq (tgt := 29) hx hb dX11_batten_14 (by decide) (fun c_2 => ?_) (fun c_2 => ?_)
  · refine lv_ldc2 (v := (-1000000)) hx hb hown (hts _ k_1048) dX11_batten_29 ?_
    exact W.lret (v := (-1000000)) hx hb hr (fun t ht hW => ⟨⟨((-1000000) : Int64), (), rfl, (lf_X11_batten_3 a n1 n2 n3 c_2), bx0⟩, hS.F ht⟩) hS.2.2 dX11_batten_32 hlocks
  · refine lv_aload_n hx hb dX11_batten_17 rfl (lv_at hl 0 rfl) ?_
    refine va_get (D := D) (ci := 11) (v := .ref (a 7)) (C := RX11) (T := TX11) (N := 13) hx hb hts inT_X11 hown hK.1 hP 0 rfl rfl 6 (by decide) (hts _ k_489) (fun _ h9 => h9) rfl dX11_batten_18 ?_
    refine lv_iload_n hx hb dX11_batten_21 rfl (lv_at hl 1 rfl) ?_
    refine lv_iload_n hx hb dX11_batten_22 rfl (lv_at hl 2 rfl) ?_
    refine eRi (va_runV (As := [.int n1, .int n2]) (rest := []) ⟨hx, hb, hml, hown, hts⟩ (c_X2_fits l D cI cB cZ cJ tx a n1 n2 H.size) (zV hts k_1015 v_X2_fits ⟨Nat.le_of_ble_eq_true rfl, Nat.le_of_ble_eq_true rfl⟩) (pV (pxS hK hP hD [2, 1] (by decide) rfl) hK hP 2 rfl rfl) rfl rfl hl.1 rfl (lv_room (Nat.le_of_ble_eq_true rfl)) dX11_batten_23 ⟨Nat.le_of_ble_eq_true rfl, Nat.le_of_ble_eq_true rfl⟩) hP hS hA (fun r_4 H locs wr_4 hP hS => ?_)
    subst wr_4
    refine lv_if_ne (tgt := 33) hx hb dX11_batten_26 (by decide) (fun c => absurd c (by decide)) (fun _ => ?_)
    refine lv_ldc2 (v := (-1000000)) hx hb hown (hts _ k_1048) dX11_batten_29 ?_
    exact W.lret (v := (-1000000)) hx hb hr (fun t ht hW => ⟨⟨((-1000000) : Int64), (), rfl, (lf_X11_batten_5 a n1 n2 n3 c_2), bx0⟩, hS.F ht⟩) hS.2.2 dX11_batten_32 hlocks

theorem lf_X11_lost_3 (a : Nat → Nat) (n1 : Int32) (n2 : Int32) (n3 : Int32) (c_2 : ¬ ((0 : Int32) ≤ n3 ∧ n3 ≤ 1)) : ((-1) : Int32) = -1 := by
  first | rfl | (simp only [bi]; rw [if_pos (by grind)]; done) | (simp only [bi]; rw [if_neg (by grind)]; done) | grind
theorem lf_X11_lost_5 (a : Nat → Nat) (n1 : Int32) (n2 : Int32) (n3 : Int32) (c_2 : (0 : Int32) ≤ n3 ∧ n3 ≤ 1) : ((-1) : Int32) = -1 := by
  first | rfl | (simp only [bi]; rw [if_pos (by grind)]; done) | (simp only [bi]; rw [if_neg (by grind)]; done) | grind
set_option maxHeartbeats 4000000 in
set_option maxRecDepth 100000 in
theorem c_X11_lost (l : Launch) (D : va_G) (cI cB cZ cJ : ClassId) (tx : List (ClassId × FieldType)) (a : Nat → Nat) (n1 : Int32) (n2 : Int32) (n3 : Int32) : WrI l D cI cB cZ cJ tx yX11_lost cX11_lost 4 (some .int) 2 0 0 [.ref (a 0), .int n1, .int n2, .int n3] [(a 0, .inr (11, [.ref (a 1), .ref (a 2), .ref (a 3), .ref (a 4), .ref (a 5), .ref (a 6), .ref (a 7), .ref (a 8), .ref (a 9), .ref (a 10), .ref (a 11), .ref (a 12), .int 100])), (a 5, .inr (4, [.ref (a 18), .ref (a 19), .ref (a 20), .ref (a 21), .ref (a 22), .ref (a 23), .ref (a 24), .int 0, .int 0, .int 0, .int 1])), (a 7, .inr (2, [.ref (a 5), .ref (a 30), .ref (a 31), .ref (a 32), .ref (a 33), .ref (a 34), .ref (a 35), .ref (a 36), .ref (a 37), .ref (a 38), .ref (a 39), .ref (a 40)]))] (fun (r : Int32) (_ : Unit) => r = -1) (fun _ => []) := by
  refine wri_of2 (by decide) (Nat.le_of_ble_eq_true rfl) ?_
  intro p e s m below meth c A ls H locs hC hK hP hD hA hS hl
  obtain ⟨hx, hb, hr, hml, hown, hts, hlocks, hin⟩ := hC
  have hown : s.vm.findClass RX11 = some m.cls := hown
  have hl : lv_has ls 4 [(0, .ref (a 0)), (1, .int n1), (2, .int n2), (3, .int n3)] := hl
  refine lv_iload_n hx hb dX11_lost_0 rfl (lv_at hl 3 rfl) ?_
  refine lv_iconst (v := 0) hx hb dX11_lost_1 (by decide) ?_
  refine lv_iconst (v := 1) hx hb dX11_lost_2 (by decide) ?_
  refine eRi (va_runS (As := [.int n3, .int 0, .int 1]) (rest := []) ⟨hx, hb, hml, hown, hts⟩ (c_X11_within l D cI cB cZ cJ tx n3 0 1 H.size) (zS hts k_527 v_X11_within ⟨Nat.le_of_ble_eq_true rfl, Nat.le_of_ble_eq_true rfl⟩) (px0 hK) rfl rfl hl.1 rfl (lv_room (Nat.le_of_ble_eq_true rfl)) dX11_lost_3 ⟨Nat.le_of_ble_eq_true rfl, Nat.le_of_ble_eq_true rfl⟩) hP hS hA (fun r_1 H locs wr_1 hP hS => ?_)
  subst wr_1
  refine lv_bi_eq (tgt := 21) hx hb dX11_lost_6 (by decide) (fun c_2 => ?_) (fun c_2 => ?_)
  · refine lv_iconst (v := (-1)) hx hb dX11_lost_21 (by decide) ?_
    exact W.iret (v := (-1)) hx hb hr (fun t ht hW => ⟨⟨((-1) : Int32), (), rfl, (lf_X11_lost_3 a n1 n2 n3 c_2), bx0⟩, hS.F ht⟩) hS.2.2 dX11_lost_22 hlocks
  · refine lv_aload_n hx hb dX11_lost_9 rfl (lv_at hl 0 rfl) ?_
    refine va_get (D := D) (ci := 11) (v := .ref (a 7)) (C := RX11) (T := TX11) (N := 13) hx hb hts inT_X11 hown hK.1 hP 0 rfl rfl 6 (by decide) (hts _ k_489) (fun _ h9 => h9) rfl dX11_lost_10 ?_
    refine lv_iload_n hx hb dX11_lost_13 rfl (lv_at hl 1 rfl) ?_
    refine lv_iload_n hx hb dX11_lost_14 rfl (lv_at hl 2 rfl) ?_
    refine eRi (va_runV (As := [.int n1, .int n2]) (rest := []) ⟨hx, hb, hml, hown, hts⟩ (c_X2_fits l D cI cB cZ cJ tx a n1 n2 H.size) (zV hts k_1015 v_X2_fits ⟨Nat.le_of_ble_eq_true rfl, Nat.le_of_ble_eq_true rfl⟩) (pV (pxS hK hP hD [2, 1] (by decide) rfl) hK hP 2 rfl rfl) rfl rfl hl.1 rfl (lv_room (Nat.le_of_ble_eq_true rfl)) dX11_lost_15 ⟨Nat.le_of_ble_eq_true rfl, Nat.le_of_ble_eq_true rfl⟩) hP hS hA (fun r_4 H locs wr_4 hP hS => ?_)
    subst wr_4
    refine lv_if_ne (tgt := 23) hx hb dX11_lost_18 (by decide) (fun c => absurd c (by decide)) (fun _ => ?_)
    refine lv_iconst (v := (-1)) hx hb dX11_lost_21 (by decide) ?_
    exact W.iret (v := (-1)) hx hb hr (fun t ht hW => ⟨⟨((-1) : Int32), (), rfl, (lf_X11_lost_5 a n1 n2 n3 c_2), bx0⟩, hS.F ht⟩) hS.2.2 dX11_lost_22 hlocks

theorem lf_X11_size_2 (a : Nat → Nat) (n1 : Int32) (n2 : Int32) (n3 : Int32) (n4 : Int32) : (0 : Int32) = 0 := by
  first | rfl | (simp only [bi]; rw [if_pos (by grind)]; done) | (simp only [bi]; rw [if_neg (by grind)]; done) | grind
set_option maxHeartbeats 4000000 in
set_option maxRecDepth 100000 in
theorem c_X11_size (l : Launch) (D : va_G) (cI cB cZ cJ : ClassId) (tx : List (ClassId × FieldType)) (a : Nat → Nat) (n1 : Int32) (n2 : Int32) (n3 : Int32) (n4 : Int32) : WrI l D cI cB cZ cJ tx yX11_size cX11_size 6 (some .boolean) 2 0 0 [.ref (a 0), .int n1, .int n2, .int n3, .int n4] [(a 0, .inr (11, [.ref (a 1), .ref (a 2), .ref (a 3), .ref (a 4), .ref (a 5), .ref (a 6), .ref (a 7), .ref (a 8), .ref (a 9), .ref (a 10), .ref (a 11), .ref (a 12), .int 100])), (a 5, .inr (4, [.ref (a 18), .ref (a 19), .ref (a 20), .ref (a 21), .ref (a 22), .ref (a 23), .ref (a 24), .int 0, .int 0, .int 0, .int 1]))] (fun (r : Int32) (_ : Unit) => r = 0) (fun _ => []) := by
  refine wri_of2 (by decide) (Nat.le_of_ble_eq_true rfl) ?_
  intro p e s m below meth c A ls H locs hC hK hP hD hA hS hl
  obtain ⟨hx, hb, hr, hml, hown, hts, hlocks, hin⟩ := hC
  have hown : s.vm.findClass RX11 = some m.cls := hown
  have hl : lv_has ls 6 [(0, .ref (a 0)), (1, .int n1), (2, .int n2), (3, .int n3), (4, .int n4)] := hl
  refine lv_aload_n hx hb dX11_size_0 rfl (lv_at hl 0 rfl) ?_
  refine va_get (D := D) (ci := 11) (v := .ref (a 5)) (C := RX11) (T := TX11) (N := 13) hx hb hts inT_X11 hown hK.1 hP 0 rfl rfl 4 (by decide) (hts _ k_487) (fun _ h9 => h9) rfl dX11_size_1 ?_
  refine lv_iload_n hx hb dX11_size_4 rfl (lv_at hl 1 rfl) ?_
  refine lv_iload_n hx hb dX11_size_5 rfl (lv_at hl 2 rfl) ?_
  refine lv_iload_n hx hb dX11_size_6 rfl (lv_at hl 3 rfl) ?_
  refine eRi (va_runV (As := [.int n1, .int n2, .int n3]) (rest := []) ⟨hx, hb, hml, hown, hts⟩ (c_X4_rivetAt l D cI cB cZ cJ tx a n1 n2 n3 H.size) (zV hts k_850 v_X4_rivetAt ⟨Nat.le_of_ble_eq_true rfl, Nat.le_of_ble_eq_true rfl⟩) (pV (px1 hK hP 1 rfl) hK hP 1 rfl rfl) rfl rfl hl.1 rfl (lv_room (Nat.le_of_ble_eq_true rfl)) dX11_size_7 ⟨Nat.le_of_ble_eq_true rfl, Nat.le_of_ble_eq_true rfl⟩) hP hS hA (fun r_1 H locs wr_1 hP hS => ?_)
  subst wr_1
  refine lv_istore (lv' := [(5, .int (-1)), (0, .ref (a 0)), (1, .int n1), (2, .int n2), (3, .int n3), (4, .int n4)]) hx hb dX11_size_10 hl (by decide) rfl (fun ls hl => ?_)
  refine lv_iload hx hb dX11_size_12 (lv_at hl 0 rfl) ?_
  refine lv_if_lt (tgt := 42) hx hb dX11_size_14 (by decide) (fun _ => ?_) (fun c => absurd c (by decide))
  refine lv_iconst (v := 0) hx hb dX11_size_42 (by decide) ?_
  exact W.zret (v := 0) hx hb hr (by decide) (fun t ht hW => ⟨⟨(0 : Int32), (), rfl, (lf_X11_size_2 a n1 n2 n3 n4), bx0⟩, hS.F ht⟩) hS.2.2 dX11_size_43 hlocks

theorem lf_X11_repairs_2 (a : Nat → Nat) (n1 : Int32) (n2 : Int32) (n3 : Int32) : ((-1) : Int64) = -1 := by
  first | rfl | (simp only [bi]; rw [if_pos (by grind)]; done) | (simp only [bi]; rw [if_neg (by grind)]; done) | grind
set_option maxHeartbeats 4000000 in
set_option maxRecDepth 100000 in
theorem c_X11_repairs (l : Launch) (D : va_G) (cI cB cZ cJ : ClassId) (tx : List (ClassId × FieldType)) (a : Nat → Nat) (n1 : Int32) (n2 : Int32) (n3 : Int32) : WrL l D cI cB cZ cJ tx yX11_repairs cX11_repairs 4 (some .long) 1 0 0 [.ref (a 0), .int n1, .int n2, .int n3] [(a 0, .inr (11, [.ref (a 1), .ref (a 2), .ref (a 3), .ref (a 4), .ref (a 5), .ref (a 6), .ref (a 7), .ref (a 8), .ref (a 9), .ref (a 10), .ref (a 11), .ref (a 12), .int 100])), (a 5, .inr (4, [.ref (a 18), .ref (a 19), .ref (a 20), .ref (a 21), .ref (a 22), .ref (a 23), .ref (a 24), .int 0, .int 0, .int 0, .int 1]))] (fun (r : Int64) (_ : Unit) => r = -1) (fun _ => []) := by
  refine wrl_of2 (by decide) (Nat.le_of_ble_eq_true rfl) ?_
  intro p e s m below meth c A ls H locs hC hK hP hD hA hS hl
  obtain ⟨hx, hb, hr, hml, hown, hts, hlocks, hin⟩ := hC
  have hown : s.vm.findClass RX11 = some m.cls := hown
  have hl : lv_has ls 4 [(0, .ref (a 0)), (1, .int n1), (2, .int n2), (3, .int n3)] := hl
  refine lv_iload_n hx hb dX11_repairs_0 rfl (lv_at hl 1 rfl) ?_
  refine lv_iconst (v := 0) hx hb dX11_repairs_1 (by decide) ?_
  refine lv_aload_n hx hb dX11_repairs_2 rfl (lv_at hl 0 rfl) ?_
  refine va_get (D := D) (ci := 11) (v := .ref (a 5)) (C := RX11) (T := TX11) (N := 13) hx hb hts inT_X11 hown hK.1 hP 0 rfl rfl 4 (by decide) (hts _ k_487) (fun _ h9 => h9) rfl dX11_repairs_3 ?_
  refine va_getN (D := D) (ci := 4) (v := .int 0) (C := RX4) (T := TX4) (N := 11) hx hb hts inT_X4 hown hK.1 hP 1 rfl rfl 8 (by decide) (va_Nw.use rfl (hK.2.2.1 _ n_260)) (fun _ h9 => h9) rfl dX11_repairs_6 ?_
  refine lv_iconst (v := 1) hx hb dX11_repairs_9 (by decide) ?_
  refine lv_isub hx hb dX11_repairs_10 ?_
  refine lv_topv (y := (-1)) (by decide) ?_
  refine eRi (va_runS (As := [.int n1, .int 0, .int (-1)]) (rest := []) ⟨hx, hb, hml, hown, hts⟩ (c_X11_within l D cI cB cZ cJ tx n1 0 (-1) H.size) (zS hts k_527 v_X11_within ⟨Nat.le_of_ble_eq_true rfl, Nat.le_of_ble_eq_true rfl⟩) (px0 hK) rfl rfl hl.1 rfl (lv_room (Nat.le_of_ble_eq_true rfl)) dX11_repairs_11 ⟨Nat.le_of_ble_eq_true rfl, Nat.le_of_ble_eq_true rfl⟩) hP hS hA (fun r_1 H locs wr_1 hP hS => ?_)
  subst wr_1
  refine lv_topv (y := 0) (bi_no (by decide)) ?_
  refine lv_if_eq (tgt := 36) hx hb dX11_repairs_14 (by decide) (fun _ => ?_) (fun c => absurd c (by decide))
  refine lv_ldc2 (v := (-1)) hx hb hown (hts _ k_1074) dX11_repairs_36 ?_
  exact W.lret (v := (-1)) hx hb hr (fun t ht hW => ⟨⟨((-1) : Int64), (), rfl, (lf_X11_repairs_2 a n1 n2 n3), bx0⟩, hS.F ht⟩) hS.2.2 dX11_repairs_39 hlocks

theorem lf_X11_thole_2 (a : Nat → Nat) (n1 : Int32) (n2 : Int32) (n3 : Int32) : (0 : Int32) = 0 := by
  first | rfl | (simp only [bi]; rw [if_pos (by grind)]; done) | (simp only [bi]; rw [if_neg (by grind)]; done) | grind
set_option maxHeartbeats 4000000 in
set_option maxRecDepth 100000 in
theorem c_X11_thole (l : Launch) (D : va_G) (cI cB cZ cJ : ClassId) (tx : List (ClassId × FieldType)) (a : Nat → Nat) (n1 : Int32) (n2 : Int32) (n3 : Int32) : WrI l D cI cB cZ cJ tx yX11_thole cX11_thole 4 (some .boolean) 1 0 0 [.ref (a 0), .int n1, .int n2, .int n3] [(a 0, .inr (11, [.ref (a 1), .ref (a 2), .ref (a 3), .ref (a 4), .ref (a 5), .ref (a 6), .ref (a 7), .ref (a 8), .ref (a 9), .ref (a 10), .ref (a 11), .ref (a 12), .int 100])), (a 5, .inr (4, [.ref (a 18), .ref (a 19), .ref (a 20), .ref (a 21), .ref (a 22), .ref (a 23), .ref (a 24), .int 0, .int 0, .int 0, .int 1]))] (fun (r : Int32) (_ : Unit) => r = 0) (fun _ => []) := by
  refine wri_of2 (by decide) (Nat.le_of_ble_eq_true rfl) ?_
  intro p e s m below meth c A ls H locs hC hK hP hD hA hS hl
  obtain ⟨hx, hb, hr, hml, hown, hts, hlocks, hin⟩ := hC
  have hown : s.vm.findClass RX11 = some m.cls := hown
  have hl : lv_has ls 4 [(0, .ref (a 0)), (1, .int n1), (2, .int n2), (3, .int n3)] := hl
  refine lv_iload_n hx hb dX11_thole_0 rfl (lv_at hl 1 rfl) ?_
  refine lv_iconst (v := 0) hx hb dX11_thole_1 (by decide) ?_
  refine lv_aload_n hx hb dX11_thole_2 rfl (lv_at hl 0 rfl) ?_
  refine va_get (D := D) (ci := 11) (v := .ref (a 5)) (C := RX11) (T := TX11) (N := 13) hx hb hts inT_X11 hown hK.1 hP 0 rfl rfl 4 (by decide) (hts _ k_487) (fun _ h9 => h9) rfl dX11_thole_3 ?_
  refine va_getN (D := D) (ci := 4) (v := .int 0) (C := RX4) (T := TX4) (N := 11) hx hb hts inT_X4 hown hK.1 hP 1 rfl rfl 7 (by decide) (va_Nw.use rfl (hK.2.2.1 _ n_254)) (fun _ h9 => h9) rfl dX11_thole_6 ?_
  refine lv_iconst (v := 1) hx hb dX11_thole_9 (by decide) ?_
  refine lv_isub hx hb dX11_thole_10 ?_
  refine lv_topv (y := (-1)) (by decide) ?_
  refine eRi (va_runS (As := [.int n1, .int 0, .int (-1)]) (rest := []) ⟨hx, hb, hml, hown, hts⟩ (c_X11_within l D cI cB cZ cJ tx n1 0 (-1) H.size) (zS hts k_527 v_X11_within ⟨Nat.le_of_ble_eq_true rfl, Nat.le_of_ble_eq_true rfl⟩) (px0 hK) rfl rfl hl.1 rfl (lv_room (Nat.le_of_ble_eq_true rfl)) dX11_thole_11 ⟨Nat.le_of_ble_eq_true rfl, Nat.le_of_ble_eq_true rfl⟩) hP hS hA (fun r_1 H locs wr_1 hP hS => ?_)
  subst wr_1
  refine lv_topv (y := 0) (bi_no (by decide)) ?_
  refine lv_if_eq (tgt := 35) hx hb dX11_thole_14 (by decide) (fun _ => ?_) (fun c => absurd c (by decide))
  refine lv_iconst (v := 0) hx hb dX11_thole_35 (by decide) ?_
  exact W.zret (v := 0) hx hb hr (by decide) (fun t ht hW => ⟨⟨(0 : Int32), (), rfl, (lf_X11_thole_2 a n1 n2 n3), bx0⟩, hS.F ht⟩) hS.2.2 dX11_thole_36 hlocks

theorem lf_X11_oars_2 (a : Nat → Nat) (n1 : Int32) : ((-1) : Int32) = -1 := by
  first | rfl | (simp only [bi]; rw [if_pos (by grind)]; done) | (simp only [bi]; rw [if_neg (by grind)]; done) | grind
set_option maxHeartbeats 4000000 in
set_option maxRecDepth 100000 in
theorem c_X11_oars (l : Launch) (D : va_G) (cI cB cZ cJ : ClassId) (tx : List (ClassId × FieldType)) (a : Nat → Nat) (n1 : Int32) : WrI l D cI cB cZ cJ tx yX11_oars cX11_oars 2 (some .int) 1 0 0 [.ref (a 0), .int n1] [(a 0, .inr (11, [.ref (a 1), .ref (a 2), .ref (a 3), .ref (a 4), .ref (a 5), .ref (a 6), .ref (a 7), .ref (a 8), .ref (a 9), .ref (a 10), .ref (a 11), .ref (a 12), .int 100])), (a 5, .inr (4, [.ref (a 18), .ref (a 19), .ref (a 20), .ref (a 21), .ref (a 22), .ref (a 23), .ref (a 24), .int 0, .int 0, .int 0, .int 1]))] (fun (r : Int32) (_ : Unit) => r = -1) (fun _ => []) := by
  refine wri_of2 (by decide) (Nat.le_of_ble_eq_true rfl) ?_
  intro p e s m below meth c A ls H locs hC hK hP hD hA hS hl
  obtain ⟨hx, hb, hr, hml, hown, hts, hlocks, hin⟩ := hC
  have hown : s.vm.findClass RX11 = some m.cls := hown
  have hl : lv_has ls 2 [(0, .ref (a 0)), (1, .int n1)] := hl
  refine lv_aload_n hx hb dX11_oars_0 rfl (lv_at hl 0 rfl) ?_
  refine va_get (D := D) (ci := 11) (v := .ref (a 5)) (C := RX11) (T := TX11) (N := 13) hx hb hts inT_X11 hown hK.1 hP 0 rfl rfl 4 (by decide) (hts _ k_487) (fun _ h9 => h9) rfl dX11_oars_1 ?_
  refine eRi (va_runV (As := []) (rest := []) ⟨hx, hb, hml, hown, hts⟩ (c_X4_stands l D cI cB cZ cJ tx a H.size) (zV hts k_824 v_X4_stands ⟨Nat.le_of_ble_eq_true rfl, Nat.le_of_ble_eq_true rfl⟩) (pV (px1 hK hP 1 rfl) hK hP 1 rfl rfl) rfl rfl hl.1 rfl (lv_room (Nat.le_of_ble_eq_true rfl)) dX11_oars_4 ⟨Nat.le_of_ble_eq_true rfl, Nat.le_of_ble_eq_true rfl⟩) hP hS hA (fun r_1 H locs wr_1 hP hS => ?_)
  subst wr_1
  refine lv_if_ne (tgt := 12) hx hb dX11_oars_7 (by decide) (fun c => absurd c (by decide)) (fun _ => ?_)
  refine lv_iconst (v := (-1)) hx hb dX11_oars_10 (by decide) ?_
  exact W.iret (v := (-1)) hx hb hr (fun t ht hW => ⟨⟨((-1) : Int32), (), rfl, (lf_X11_oars_2 a n1), bx0⟩, hS.F ht⟩) hS.2.2 dX11_oars_11 hlocks

theorem lf_X11_pair_2 (a : Nat → Nat) (n1 : Int32) (n2 : Int32) : ((-1) : Int64) = -1 := by
  first | rfl | (simp only [bi]; rw [if_pos (by grind)]; done) | (simp only [bi]; rw [if_neg (by grind)]; done) | grind
set_option maxHeartbeats 4000000 in
set_option maxRecDepth 100000 in
theorem c_X11_pair (l : Launch) (D : va_G) (cI cB cZ cJ : ClassId) (tx : List (ClassId × FieldType)) (a : Nat → Nat) (n1 : Int32) (n2 : Int32) : WrL l D cI cB cZ cJ tx yX11_pair cX11_pair 7 (some .long) 1 0 0 [.ref (a 0), .int n1, .int n2] [(a 0, .inr (11, [.ref (a 1), .ref (a 2), .ref (a 3), .ref (a 4), .ref (a 5), .ref (a 6), .ref (a 7), .ref (a 8), .ref (a 9), .ref (a 10), .ref (a 11), .ref (a 12), .int 100])), (a 5, .inr (4, [.ref (a 18), .ref (a 19), .ref (a 20), .ref (a 21), .ref (a 22), .ref (a 23), .ref (a 24), .int 0, .int 0, .int 0, .int 1]))] (fun (r : Int64) (_ : Unit) => r = -1) (fun _ => []) := by
  refine wrl_of2 (by decide) (Nat.le_of_ble_eq_true rfl) ?_
  intro p e s m below meth c A ls H locs hC hK hP hD hA hS hl
  obtain ⟨hx, hb, hr, hml, hown, hts, hlocks, hin⟩ := hC
  have hown : s.vm.findClass RX11 = some m.cls := hown
  have hl : lv_has ls 7 [(0, .ref (a 0)), (1, .int n1), (2, .int n2)] := hl
  refine lv_iload_n hx hb dX11_pair_0 rfl (lv_at hl 1 rfl) ?_
  refine lv_iconst (v := 0) hx hb dX11_pair_1 (by decide) ?_
  refine lv_aload_n hx hb dX11_pair_2 rfl (lv_at hl 0 rfl) ?_
  refine va_get (D := D) (ci := 11) (v := .ref (a 5)) (C := RX11) (T := TX11) (N := 13) hx hb hts inT_X11 hown hK.1 hP 0 rfl rfl 4 (by decide) (hts _ k_487) (fun _ h9 => h9) rfl dX11_pair_3 ?_
  refine va_getN (D := D) (ci := 4) (v := .int 0) (C := RX4) (T := TX4) (N := 11) hx hb hts inT_X4 hown hK.1 hP 1 rfl rfl 7 (by decide) (va_Nw.use rfl (hK.2.2.1 _ n_254)) (fun _ h9 => h9) rfl dX11_pair_6 ?_
  refine lv_iconst (v := 1) hx hb dX11_pair_9 (by decide) ?_
  refine lv_isub hx hb dX11_pair_10 ?_
  refine lv_topv (y := (-1)) (by decide) ?_
  refine eRi (va_runS (As := [.int n1, .int 0, .int (-1)]) (rest := []) ⟨hx, hb, hml, hown, hts⟩ (c_X11_within l D cI cB cZ cJ tx n1 0 (-1) H.size) (zS hts k_527 v_X11_within ⟨Nat.le_of_ble_eq_true rfl, Nat.le_of_ble_eq_true rfl⟩) (px0 hK) rfl rfl hl.1 rfl (lv_room (Nat.le_of_ble_eq_true rfl)) dX11_pair_11 ⟨Nat.le_of_ble_eq_true rfl, Nat.le_of_ble_eq_true rfl⟩) hP hS hA (fun r_1 H locs wr_1 hP hS => ?_)
  subst wr_1
  refine lv_topv (y := 0) (bi_no (by decide)) ?_
  refine lv_if_eq (tgt := 26) hx hb dX11_pair_14 (by decide) (fun _ => ?_) (fun c => absurd c (by decide))
  refine lv_ldc2 (v := (-1)) hx hb hown (hts _ k_1074) dX11_pair_26 ?_
  exact W.lret (v := (-1)) hx hb hr (fun t ht hW => ⟨⟨((-1) : Int64), (), rfl, (lf_X11_pair_2 a n1 n2), bx0⟩, hS.F ht⟩) hS.2.2 dX11_pair_29 hlocks
