set_option maxHeartbeats 4000000 in
set_option maxRecDepth 100000 in
theorem c_X11_pitch (l : Launch) (D : va_G) (cI cB cZ cJ : ClassId) (tx : List (ClassId × FieldType)) (a : Nat → Nat) (ap : Int32) (n1 : Int32) : WrI l D cI cB cZ cJ tx yX11_pitch cX11_pitch 2 (some .boolean) 1 0 0 [.ref (a 0), .int n1] [(a 0, .inr (11, [.ref (a 1), .ref (a 2), .ref (a 3), .ref (a 4), .ref (a 5), .ref (a 6), .ref (a 7), .ref (a 8), .ref (a 9), .ref (a 10), .ref (a 11), .ref (a 12), .int ap]))] (fun (r : Int32) (v : (Int32)) => True) (fun v => [(a 0, .inr (11, [.ref (a 1), .ref (a 2), .ref (a 3), .ref (a 4), .ref (a 5), .ref (a 6), .ref (a 7), .ref (a 8), .ref (a 9), .ref (a 10), .ref (a 11), .ref (a 12), .int v]))]) := by
  refine wri_of2 (by decide) (Nat.le_of_ble_eq_true rfl) ?_
  intro p e s m below meth c A ls H locs hC hK hP hD hA hS hl
  obtain ⟨hx, hb, hr, hml, hown, hts, hlocks, hin⟩ := hC
  have hown : s.vm.findClass RX11 = some m.cls := hown
  have hl : lv_has ls 2 [(0, .ref (a 0)), (1, .int n1)] := hl
  refine lv_iload_n hx hb dX11_pitch_0 rfl (lv_at hl 1 rfl) ?_
  refine lv_iconst (v := 1) hx hb dX11_pitch_1 (by decide) ?_
  refine lv_sipush (v := 1000) hx hb dX11_pitch_2 (by decide) ?_
  refine eRi (va_runS (As := [.int n1, .int 1, .int 1000]) (rest := []) ⟨hx, hb, hml, hown, hts⟩ (c_X11_within l D cI cB cZ cJ tx n1 1 1000 H.size) (zS hts k_527 v_X11_within ⟨Nat.le_of_ble_eq_true rfl, Nat.le_of_ble_eq_true rfl⟩) (px0 hK) rfl rfl hl.1 rfl (lv_room (Nat.le_of_ble_eq_true rfl)) dX11_pitch_5 ⟨Nat.le_of_ble_eq_true rfl, Nat.le_of_ble_eq_true rfl⟩) hP hS hA (fun r_1 H locs wr_1 hP hS => ?_)
  subst wr_1
  refine lv_bi_ne (tgt := 13) hx hb dX11_pitch_8 (by decide) (fun c_2 => ?_) (fun c_2 => ?_)
  · obtain ⟨tn1, tn1a, tn1b, tn1e⟩ := of_rng 1 1000 rfl rfl c_2
    subst tn1e
    refine lv_aload_n hx hb dX11_pitch_13 rfl (lv_at hl 0 rfl) ?_
    refine lv_iload_n hx hb dX11_pitch_14 rfl (lv_at hl 1 rfl) ?_
    refine va_put (D := D) (ci := 11) (v := .int (nI tn1)) (ty := .int) (C := RX11) (T := TX11) (N := 13) hx hb hts inT_X11 tyX11 tyX11_ok nmX11 hown hK.1 hP hD hS 0 rfl rfl 12 (by decide) (hts _ k_495) (fun _ h9 => h9) rfl (by decide +kernel) rfl rfl (Nat.le_of_ble_eq_true rfl) dX11_pitch_15 (fun H locs hP hD hS => ?_)
    have hP : va_P D vwCl [(a 0, .inr (11, [.ref (a 1), .ref (a 2), .ref (a 3), .ref (a 4), .ref (a 5), .ref (a 6), .ref (a 7), .ref (a 8), .ref (a 9), .ref (a 10), .ref (a 11), .ref (a 12), .int (nI tn1)]))] H := hP
    have hD : va_D A [(a 0, .inr (11, [.ref (a 1), .ref (a 2), .ref (a 3), .ref (a 4), .ref (a 5), .ref (a 6), .ref (a 7), .ref (a 8), .ref (a 9), .ref (a 10), .ref (a 11), .ref (a 12), .int (nI tn1)]))] := hD
    refine lv_iconst (v := 1) hx hb dX11_pitch_18 (by decide) ?_
    exact W.zret (v := 1) hx hb hr (by decide) (fun tt9 ht hW => ⟨⟨(1 : Int32), ((nI tn1 : Int32)), rfl, trivial, ⟨by rw [ht]; exact hP, hD⟩⟩, hS.F ht⟩) hS.2.2 dX11_pitch_19 hlocks
  · refine lv_iconst (v := 0) hx hb dX11_pitch_11 (by decide) ?_
    exact W.zret (v := 0) hx hb hr (by decide) (fun tt9 ht hW => ⟨⟨(0 : Int32), ((ap : Int32)), rfl, trivial, ⟨by rw [ht]; exact hP, hD⟩⟩, hS.F ht⟩) hS.2.2 dX11_pitch_12 hlocks

set_option maxHeartbeats 4000000 in
set_option maxRecDepth 100000 in
theorem c_X11_seed (l : Launch) (D : va_G) (cI cB cZ cJ : ClassId) (tx : List (ClassId × FieldType)) (a : Nat → Nat) (ap : Int32) (sn : Nat) (sk : Nat) (scu : Int32) (sch : Int32) (n1 : Int32) (hsn : sn ≤ 24) (hsk : sk ≤ 8) : WrI l D cI cB cZ cJ tx yX11_seed cX11_seed 2 (some .boolean) 1 0 0 [.ref (a 0), .int n1] [(a 0, .inr (11, [.ref (a 1), .ref (a 2), .ref (a 3), .ref (a 4), .ref (a 5), .ref (a 6), .ref (a 7), .ref (a 8), .ref (a 9), .ref (a 10), .ref (a 11), .ref (a 12), .int ap])), (a 5, .inr (4, [.ref (a 18), .ref (a 19), .ref (a 20), .ref (a 21), .ref (a 22), .ref (a 23), .ref (a 24), .int (nI sn), .int (nI sk), .int scu, .int sch]))] (fun (r : Int32) (v : (Int32)) => True) (fun v => [(a 0, .inr (11, [.ref (a 1), .ref (a 2), .ref (a 3), .ref (a 4), .ref (a 5), .ref (a 6), .ref (a 7), .ref (a 8), .ref (a 9), .ref (a 10), .ref (a 11), .ref (a 12), .int ap])), (a 5, .inr (4, [.ref (a 18), .ref (a 19), .ref (a 20), .ref (a 21), .ref (a 22), .ref (a 23), .ref (a 24), .int (nI sn), .int (nI sk), .int scu, .int v]))]) := by
  refine wri_of2 (by decide) (Nat.le_of_ble_eq_true rfl) ?_
  intro p e s m below meth c A ls H locs hC hK hP hD hA hS hl
  obtain ⟨hx, hb, hr, hml, hown, hts, hlocks, hin⟩ := hC
  have hown : s.vm.findClass RX11 = some m.cls := hown
  have hl : lv_has ls 2 [(0, .ref (a 0)), (1, .int n1)] := hl
  refine lv_iload_n hx hb dX11_seed_0 rfl (lv_at hl 1 rfl) ?_
  refine lv_iconst (v := 0) hx hb dX11_seed_1 (by decide) ?_
  refine lv_ldc (v := 65535) hx hb hown (hts _ k_534) dX11_seed_2 ?_
  refine eRi (va_runS (As := [.int n1, .int 0, .int 65535]) (rest := []) ⟨hx, hb, hml, hown, hts⟩ (c_X11_within l D cI cB cZ cJ tx n1 0 65535 H.size) (zS hts k_527 v_X11_within ⟨Nat.le_of_ble_eq_true rfl, Nat.le_of_ble_eq_true rfl⟩) (px0 hK) rfl rfl hl.1 rfl (lv_room (Nat.le_of_ble_eq_true rfl)) dX11_seed_4 ⟨Nat.le_of_ble_eq_true rfl, Nat.le_of_ble_eq_true rfl⟩) hP hS hA (fun r_1 H locs wr_1 hP hS => ?_)
  subst wr_1
  refine lv_bi_ne (tgt := 12) hx hb dX11_seed_7 (by decide) (fun c_2 => ?_) (fun c_2 => ?_)
  · obtain ⟨tn1, tn1a, tn1b, tn1e⟩ := of_rng 0 65535 rfl rfl c_2
    subst tn1e
    refine lv_aload_n hx hb dX11_seed_12 rfl (lv_at hl 0 rfl) ?_
    refine va_get (D := D) (ci := 11) (v := .ref (a 5)) (C := RX11) (T := TX11) (N := 13) hx hb hts inT_X11 hown hK.1 hP 0 rfl rfl 4 (by decide) (hts _ k_487) (fun _ h9 => h9) rfl dX11_seed_13 ?_
    refine lv_iload_n hx hb dX11_seed_16 rfl (lv_at hl 1 rfl) ?_
    refine va_putN (D := D) (ci := 4) (v := .int (nI tn1)) (ty := .int) (C := RX4) (T := TX4) (N := 11) hx hb hts inT_X4 tyX4 tyX4_ok nmX4 hown hK.1 hP hD hS 1 rfl rfl 10 (by decide) (va_Nw.use rfl (hK.2.2.1 _ n_263)) (fun _ h9 => h9) rfl (by decide +kernel) rfl rfl (Nat.le_of_ble_eq_true rfl) dX11_seed_17 (fun H locs hP hD hS => ?_)
    have hP : va_P D vwCl [(a 0, .inr (11, [.ref (a 1), .ref (a 2), .ref (a 3), .ref (a 4), .ref (a 5), .ref (a 6), .ref (a 7), .ref (a 8), .ref (a 9), .ref (a 10), .ref (a 11), .ref (a 12), .int ap])), (a 5, .inr (4, [.ref (a 18), .ref (a 19), .ref (a 20), .ref (a 21), .ref (a 22), .ref (a 23), .ref (a 24), .int (nI sn), .int (nI sk), .int scu, .int (nI tn1)]))] H := hP
    have hD : va_D A [(a 0, .inr (11, [.ref (a 1), .ref (a 2), .ref (a 3), .ref (a 4), .ref (a 5), .ref (a 6), .ref (a 7), .ref (a 8), .ref (a 9), .ref (a 10), .ref (a 11), .ref (a 12), .int ap])), (a 5, .inr (4, [.ref (a 18), .ref (a 19), .ref (a 20), .ref (a 21), .ref (a 22), .ref (a 23), .ref (a 24), .int (nI sn), .int (nI sk), .int scu, .int (nI tn1)]))] := hD
    refine lv_iconst (v := 1) hx hb dX11_seed_20 (by decide) ?_
    exact W.zret (v := 1) hx hb hr (by decide) (fun tt9 ht hW => ⟨⟨(1 : Int32), ((nI tn1 : Int32)), rfl, trivial, ⟨by rw [ht]; exact hP, hD⟩⟩, hS.F ht⟩) hS.2.2 dX11_seed_21 hlocks
  · refine lv_iconst (v := 0) hx hb dX11_seed_10 (by decide) ?_
    exact W.zret (v := 0) hx hb hr (by decide) (fun tt9 ht hW => ⟨⟨(0 : Int32), ((sch : Int32)), rfl, trivial, ⟨by rw [ht]; exact hP, hD⟩⟩, hS.F ht⟩) hS.2.2 dX11_seed_11 hlocks

theorem lf_X11_mound_6 (a : Nat → Nat) (ap : Int32) (sn : Nat) (sk : Nat) (scu : Int32) (sch : Int32) (g4 : Nat → Int32) (n1 : Int32) (n2 : Int32) (hsn : sn ≤ 24) (hsk : sk ≤ 8) (c_2 : (0 : Int32) ≤ n1 ∧ n1 ≤ 23) (tn1 : Nat) (tn1a : 0 ≤ tn1) (tn1b : tn1 ≤ 23) (tn1e : n1 = nI tn1) (c_4 : (0 : Int32) ≤ n2 ∧ n2 ≤ 1000) (tn2 : Nat) (tn2a : 0 ≤ tn2) (tn2b : tn2 ≤ 1000) (tn2e : n2 = nI tn2) : vp_in (nI tn1) 24 := by
  first | exact vp_in_nI (by omega) (by decide) | (unfold vp_in; decide)
set_option maxHeartbeats 4000000 in
set_option maxRecDepth 100000 in
theorem c_X11_mound (l : Launch) (D : va_G) (cI cB cZ cJ : ClassId) (tx : List (ClassId × FieldType)) (a : Nat → Nat) (ap : Int32) (sn : Nat) (sk : Nat) (scu : Int32) (sch : Int32) (g4 : Nat → Int32) (n1 : Int32) (n2 : Int32) (hsn : sn ≤ 24) (hsk : sk ≤ 8) : WrI l D cI cB cZ cJ tx yX11_mound cX11_mound 3 (some .boolean) 1 0 0 [.ref (a 0), .int n1, .int n2] [(a 0, .inr (11, [.ref (a 1), .ref (a 2), .ref (a 3), .ref (a 4), .ref (a 5), .ref (a 6), .ref (a 7), .ref (a 8), .ref (a 9), .ref (a 10), .ref (a 11), .ref (a 12), .int ap])), (a 5, .inr (4, [.ref (a 18), .ref (a 19), .ref (a 20), .ref (a 21), .ref (a 22), .ref (a 23), .ref (a 24), .int (nI sn), .int (nI sk), .int scu, .int sch])), (a 22, .inl (cI, 24, .inl g4))] (fun (r : Int32) (v : (Nat → Int32)) => True) (fun v => [(a 0, .inr (11, [.ref (a 1), .ref (a 2), .ref (a 3), .ref (a 4), .ref (a 5), .ref (a 6), .ref (a 7), .ref (a 8), .ref (a 9), .ref (a 10), .ref (a 11), .ref (a 12), .int ap])), (a 5, .inr (4, [.ref (a 18), .ref (a 19), .ref (a 20), .ref (a 21), .ref (a 22), .ref (a 23), .ref (a 24), .int (nI sn), .int (nI sk), .int scu, .int sch])), (a 22, .inl (cI, 24, .inl v))]) := by
  refine wri_of2 (by decide) (Nat.le_of_ble_eq_true rfl) ?_
  intro p e s m below meth c A ls H locs hC hK hP hD hA hS hl
  obtain ⟨hx, hb, hr, hml, hown, hts, hlocks, hin⟩ := hC
  have hown : s.vm.findClass RX11 = some m.cls := hown
  have hl : lv_has ls 3 [(0, .ref (a 0)), (1, .int n1), (2, .int n2)] := hl
  refine lv_iload_n hx hb dX11_mound_0 rfl (lv_at hl 1 rfl) ?_
  refine lv_iconst (v := 0) hx hb dX11_mound_1 (by decide) ?_
  refine lv_bipush (v := 23) hx hb dX11_mound_2 (by decide) ?_
  refine eRi (va_runS (As := [.int n1, .int 0, .int 23]) (rest := []) ⟨hx, hb, hml, hown, hts⟩ (c_X11_within l D cI cB cZ cJ tx n1 0 23 H.size) (zS hts k_527 v_X11_within ⟨Nat.le_of_ble_eq_true rfl, Nat.le_of_ble_eq_true rfl⟩) (px0 hK) rfl rfl hl.1 rfl (lv_room (Nat.le_of_ble_eq_true rfl)) dX11_mound_4 ⟨Nat.le_of_ble_eq_true rfl, Nat.le_of_ble_eq_true rfl⟩) hP hS hA (fun r_1 H locs wr_1 hP hS => ?_)
  subst wr_1
  refine lv_bi_eq (tgt := 21) hx hb dX11_mound_7 (by decide) (fun c_2 => ?_) (fun c_2 => ?_)
  · refine lv_iconst (v := 0) hx hb dX11_mound_21 (by decide) ?_
    exact W.zret (v := 0) hx hb hr (by decide) (fun tt9 ht hW => ⟨⟨(0 : Int32), ((g4 : Nat → Int32)), rfl, trivial, ⟨by rw [ht]; exact hP, hD⟩⟩, hS.F ht⟩) hS.2.2 dX11_mound_22 hlocks
  · obtain ⟨tn1, tn1a, tn1b, tn1e⟩ := of_rng 0 23 rfl rfl c_2
    subst tn1e
    refine lv_iload_n hx hb dX11_mound_10 rfl (lv_at hl 2 rfl) ?_
    refine lv_iconst (v := 0) hx hb dX11_mound_11 (by decide) ?_
    refine lv_sipush (v := 1000) hx hb dX11_mound_12 (by decide) ?_
    refine eRi (va_runS (As := [.int n2, .int 0, .int 1000]) (rest := []) ⟨hx, hb, hml, hown, hts⟩ (c_X11_within l D cI cB cZ cJ tx n2 0 1000 H.size) (zS hts k_527 v_X11_within ⟨Nat.le_of_ble_eq_true rfl, Nat.le_of_ble_eq_true rfl⟩) (px0 hK) rfl rfl hl.1 rfl (lv_room (Nat.le_of_ble_eq_true rfl)) dX11_mound_15 ⟨Nat.le_of_ble_eq_true rfl, Nat.le_of_ble_eq_true rfl⟩) hP hS hA (fun r_3 H locs wr_3 hP hS => ?_)
    subst wr_3
    refine lv_bi_ne (tgt := 23) hx hb dX11_mound_18 (by decide) (fun c_4 => ?_) (fun c_4 => ?_)
    · obtain ⟨tn2, tn2a, tn2b, tn2e⟩ := of_rng 0 1000 rfl rfl c_4
      subst tn2e
      refine lv_aload_n hx hb dX11_mound_23 rfl (lv_at hl 0 rfl) ?_
      refine va_get (D := D) (ci := 11) (v := .ref (a 5)) (C := RX11) (T := TX11) (N := 13) hx hb hts inT_X11 hown hK.1 hP 0 rfl rfl 4 (by decide) (hts _ k_487) (fun _ h9 => h9) rfl dX11_mound_24 ?_
      refine va_getN (D := D) (ci := 4) (v := .ref (a 22)) (C := RX4) (T := TX4) (N := 11) hx hb hts inT_X4 hown hK.1 hP 1 rfl rfl 4 (by decide) (va_Nw.use rfl (hK.2.2.1 _ n_244)) (fun _ h9 => h9) rfl dX11_mound_27 ?_
      refine lv_iload_n hx hb dX11_mound_30 rfl (lv_at hl 1 rfl) ?_
      refine lv_iload_n hx hb dX11_mound_31 rfl (lv_at hl 2 rfl) ?_
      refine st_i hx hb hK hP hD hS 2 rfl (lf_X11_mound_6 a ap sn sk scu sch g4 (nI tn1) (nI tn2) hsn hsk c_2 tn1 tn1a tn1b rfl c_4 tn2 tn2a tn2b rfl) dX11_mound_32 (fun f_5 H locs hP hD hS => ?_)
      have hP : va_P D vwCl [(a 0, .inr (11, [.ref (a 1), .ref (a 2), .ref (a 3), .ref (a 4), .ref (a 5), .ref (a 6), .ref (a 7), .ref (a 8), .ref (a 9), .ref (a 10), .ref (a 11), .ref (a 12), .int ap])), (a 5, .inr (4, [.ref (a 18), .ref (a 19), .ref (a 20), .ref (a 21), .ref (a 22), .ref (a 23), .ref (a 24), .int (nI sn), .int (nI sk), .int scu, .int sch])), (a 22, .inl (cI, 24, .inl f_5))] H := hP
      have hD : va_D A [(a 0, .inr (11, [.ref (a 1), .ref (a 2), .ref (a 3), .ref (a 4), .ref (a 5), .ref (a 6), .ref (a 7), .ref (a 8), .ref (a 9), .ref (a 10), .ref (a 11), .ref (a 12), .int ap])), (a 5, .inr (4, [.ref (a 18), .ref (a 19), .ref (a 20), .ref (a 21), .ref (a 22), .ref (a 23), .ref (a 24), .int (nI sn), .int (nI sk), .int scu, .int sch])), (a 22, .inl (cI, 24, .inl f_5))] := hD
      refine lv_iconst (v := 1) hx hb dX11_mound_33 (by decide) ?_
      exact W.zret (v := 1) hx hb hr (by decide) (fun tt9 ht hW => ⟨⟨(1 : Int32), ((f_5 : Nat → Int32)), rfl, trivial, ⟨by rw [ht]; exact hP, hD⟩⟩, hS.F ht⟩) hS.2.2 dX11_mound_34 hlocks
    · refine lv_iconst (v := 0) hx hb dX11_mound_21 (by decide) ?_
      exact W.zret (v := 0) hx hb hr (by decide) (fun tt9 ht hW => ⟨⟨(0 : Int32), ((g4 : Nat → Int32)), rfl, trivial, ⟨by rw [ht]; exact hP, hD⟩⟩, hS.F ht⟩) hS.2.2 dX11_mound_22 hlocks

set_option maxHeartbeats 4000000 in
set_option maxRecDepth 100000 in
theorem c_X11_cut (l : Launch) (D : va_G) (cI cB cZ cJ : ClassId) (tx : List (ClassId × FieldType)) (a : Nat → Nat) (ap : Int32) (sn : Nat) (sk : Nat) (scu : Int32) (sch : Int32) (g5 : Nat → Int32) (n1 : Int32) (hsn : sn ≤ 24) (hsk : sk ≤ 8) : WrI l D cI cB cZ cJ tx yX11_cut cX11_cut 2 (some .boolean) 2 0 0 [.ref (a 0), .int n1] [(a 0, .inr (11, [.ref (a 1), .ref (a 2), .ref (a 3), .ref (a 4), .ref (a 5), .ref (a 6), .ref (a 7), .ref (a 8), .ref (a 9), .ref (a 10), .ref (a 11), .ref (a 12), .int ap])), (a 5, .inr (4, [.ref (a 18), .ref (a 19), .ref (a 20), .ref (a 21), .ref (a 22), .ref (a 23), .ref (a 24), .int (nI sn), .int (nI sk), .int scu, .int sch])), (a 23, .inl (cI, 8, .inl g5))] (fun (r : Int32) (v : (Int32) × (Nat → Int32)) => True) (fun v => [(a 0, .inr (11, [.ref (a 1), .ref (a 2), .ref (a 3), .ref (a 4), .ref (a 5), .ref (a 6), .ref (a 7), .ref (a 8), .ref (a 9), .ref (a 10), .ref (a 11), .ref (a 12), .int ap])), (a 5, .inr (4, [.ref (a 18), .ref (a 19), .ref (a 20), .ref (a 21), .ref (a 22), .ref (a 23), .ref (a 24), .int (nI sn), .int (nI sk), .int v.1, .int sch])), (a 23, .inl (cI, 8, .inl v.2))]) := by
  refine wri_of2 (by decide) (Nat.le_of_ble_eq_true rfl) ?_
  intro p e s m below meth c A ls H locs hC hK hP hD hA hS hl
  obtain ⟨hx, hb, hr, hml, hown, hts, hlocks, hin⟩ := hC
  have hown : s.vm.findClass RX11 = some m.cls := hown
  have hl : lv_has ls 2 [(0, .ref (a 0)), (1, .int n1)] := hl
  refine lv_iload_n hx hb dX11_cut_0 rfl (lv_at hl 1 rfl) ?_
  refine lv_aload_n hx hb dX11_cut_1 rfl (lv_at hl 0 rfl) ?_
  refine va_get (D := D) (ci := 11) (v := .ref (a 5)) (C := RX11) (T := TX11) (N := 13) hx hb hts inT_X11 hown hK.1 hP 0 rfl rfl 4 (by decide) (hts _ k_487) (fun _ h9 => h9) rfl dX11_cut_2 ?_
  refine eRi (va_runV (As := []) (rest := [.int n1]) ⟨hx, hb, hml, hown, hts⟩ (c_X4_allStations l D cI cB cZ cJ tx a sn sk scu sch H.size) (zV hts k_879 v_X4_allStations ⟨Nat.le_of_ble_eq_true rfl, Nat.le_of_ble_eq_true rfl⟩) (pV (px1 hK hP 1 rfl) hK hP 1 rfl rfl) rfl rfl hl.1 rfl (lv_room (Nat.le_of_ble_eq_true rfl)) dX11_cut_5 ⟨Nat.le_of_ble_eq_true rfl, Nat.le_of_ble_eq_true rfl⟩) hP hS hA (fun r_1 H locs wr_1 hP hS => ?_)
  refine lv_iconst (v := (-1)) hx hb dX11_cut_8 (by decide) ?_
  refine lv_ixor hx hb dX11_cut_9 ?_
  refine lv_topi (fun x_2 ex_2 => ?_)
  refine lv_iand hx hb dX11_cut_10 ?_
  refine lv_topi (fun x_3 ex_3 => ?_)
  refine lv_if_eq (tgt := 16) hx hb dX11_cut_11 (by decide) (fun c_4 => ?_) (fun c_4 => ?_)
  · refine lv_aload_n hx hb dX11_cut_16 rfl (lv_at hl 0 rfl) ?_
    refine va_get (D := D) (ci := 11) (v := .ref (a 5)) (C := RX11) (T := TX11) (N := 13) hx hb hts inT_X11 hown hK.1 hP 0 rfl rfl 4 (by decide) (hts _ k_487) (fun _ h9 => h9) rfl dX11_cut_17 ?_
    refine lv_iload_n hx hb dX11_cut_20 rfl (lv_at hl 1 rfl) ?_
    refine eWv (wr := [(a 0, .inr (11, [.ref (a 1), .ref (a 2), .ref (a 3), .ref (a 4), .ref (a 5), .ref (a 6), .ref (a 7), .ref (a 8), .ref (a 9), .ref (a 10), .ref (a 11), .ref (a 12), .int ap]))]) (va_runV (As := [.int n1]) (rest := []) ⟨hx, hb, hml, hown, hts⟩ (c_X4_cutAway l D cI cB cZ cJ tx a sn sk scu sch g5 n1 H.size) (zV hts k_883 v_X4_cutAway ⟨Nat.le_of_ble_eq_true rfl, Nat.le_of_ble_eq_true rfl⟩) (pV (pxS hK hP hD [1, 2] (by decide) rfl) hK hP 1 rfl rfl) rfl rfl hl.1 rfl (lv_room (Nat.le_of_ble_eq_true rfl)) dX11_cut_21 ⟨Nat.le_of_ble_eq_true rfl, Nat.le_of_ble_eq_true rfl⟩) hP hD hS hA [1, 2] [0] rfl rfl (by decide) (by decide) (fun u_6 H locs wr_5 hP hD hS => ?_)
    obtain ⟨scu_6, g5_6⟩ := u_6
    have hP : va_P D vwCl [(a 0, .inr (11, [.ref (a 1), .ref (a 2), .ref (a 3), .ref (a 4), .ref (a 5), .ref (a 6), .ref (a 7), .ref (a 8), .ref (a 9), .ref (a 10), .ref (a 11), .ref (a 12), .int ap])), (a 5, .inr (4, [.ref (a 18), .ref (a 19), .ref (a 20), .ref (a 21), .ref (a 22), .ref (a 23), .ref (a 24), .int (nI sn), .int (nI sk), .int scu_6, .int sch])), (a 23, .inl (cI, 8, .inl g5_6))] H := hP
    have hD : va_D A [(a 0, .inr (11, [.ref (a 1), .ref (a 2), .ref (a 3), .ref (a 4), .ref (a 5), .ref (a 6), .ref (a 7), .ref (a 8), .ref (a 9), .ref (a 10), .ref (a 11), .ref (a 12), .int ap])), (a 5, .inr (4, [.ref (a 18), .ref (a 19), .ref (a 20), .ref (a 21), .ref (a 22), .ref (a 23), .ref (a 24), .int (nI sn), .int (nI sk), .int scu_6, .int sch])), (a 23, .inl (cI, 8, .inl g5_6))] := hD
    refine lv_iconst (v := 1) hx hb dX11_cut_24 (by decide) ?_
    exact W.zret (v := 1) hx hb hr (by decide) (fun tt9 ht hW => ⟨⟨(1 : Int32), ((scu_6 : Int32), (g5_6 : Nat → Int32)), rfl, trivial, ⟨by rw [ht]; exact hP, hD⟩⟩, hS.F ht⟩) hS.2.2 dX11_cut_25 hlocks
  · refine lv_iconst (v := 0) hx hb dX11_cut_14 (by decide) ?_
    exact W.zret (v := 0) hx hb hr (by decide) (fun tt9 ht hW => ⟨⟨(0 : Int32), ((scu : Int32), (g5 : Nat → Int32)), rfl, trivial, ⟨by rw [ht]; exact hP, hD⟩⟩, hS.F ht⟩) hS.2.2 dX11_cut_15 hlocks

theorem lf_X11_lies_1 (a : Nat → Nat) (ap : Int32) (sn : Nat) (sk : Nat) (scu : Int32) (sch : Int32) (g0 : Nat → Int32) (g1 : Nat → Int32) (g3 : Nat → Int32) (g5 : Nat → Int32) (n1 : Int32) (n2 : Int32) (n3 : Int32) (n4 : Int32) (n5 : Int32) (hsn : sn ≤ 24) (hsk : sk ≤ 8) : sn ≤ 24 := by
  first | assumption | omega | decide
theorem lf_X11_lies_2 (a : Nat → Nat) (ap : Int32) (sn : Nat) (sk : Nat) (scu : Int32) (sch : Int32) (g0 : Nat → Int32) (g1 : Nat → Int32) (g3 : Nat → Int32) (g5 : Nat → Int32) (n1 : Int32) (n2 : Int32) (n3 : Int32) (n4 : Int32) (n5 : Int32) (hsn : sn ≤ 24) (hsk : sk ≤ 8) : sk ≤ 8 := by
  first | assumption | omega | decide
theorem lf_X11_lies_4 (a : Nat → Nat) (ap : Int32) (sn : Nat) (sk : Nat) (scu : Int32) (sch : Int32) (g0 : Nat → Int32) (g1 : Nat → Int32) (g3 : Nat → Int32) (g5 : Nat → Int32) (n1 : Int32) (n2 : Int32) (n3 : Int32) (n4 : Int32) (n5 : Int32) (hsn : sn ≤ 24) (hsk : sk ≤ 8) (ff3 : Nat) (ss3 : Nat) (dd3 : Nat) (hff3 : ff3 < sn) (hss3 : ss3 < sk) (hdd3 : dd3 < 2) : ¬ nI ((ff3 * 8 + ss3) * 2 + dd3) < 0 := by
  first | exact nI_pos (by omega) | exact nI_pos' (by omega)
theorem lf_X11_lies_9 (a : Nat → Nat) (ap : Int32) (sn : Nat) (sk : Nat) (scu : Int32) (sch : Int32) (g0 : Nat → Int32) (g1 : Nat → Int32) (g3 : Nat → Int32) (g5 : Nat → Int32) (n1 : Int32) (n2 : Int32) (n3 : Int32) (n4 : Int32) (n5 : Int32) (hsn : sn ≤ 24) (hsk : sk ≤ 8) (ff3 : Nat) (ss3 : Nat) (dd3 : Nat) (hff3 : ff3 < sn) (hss3 : ss3 < sk) (hdd3 : dd3 < 2) (c_6 : ((-3000) : Int32) ≤ n4 ∧ n4 ≤ 3000) (c_8 : ((-3000) : Int32) ≤ n5 ∧ n5 ≤ 3000) : ((ff3 * 8 + ss3) * 2 + dd3) < 384 := by
  first | assumption | omega | decide
theorem lf_X11_lies_10 (a : Nat → Nat) (ap : Int32) (sn : Nat) (sk : Nat) (scu : Int32) (sch : Int32) (g0 : Nat → Int32) (g1 : Nat → Int32) (g3 : Nat → Int32) (g5 : Nat → Int32) (n1 : Int32) (n2 : Int32) (n3 : Int32) (n4 : Int32) (n5 : Int32) (hsn : sn ≤ 24) (hsk : sk ≤ 8) (ff3 : Nat) (ss3 : Nat) (dd3 : Nat) (hff3 : ff3 < sn) (hss3 : ss3 < sk) (hdd3 : dd3 < 2) (c_6 : ((-3000) : Int32) ≤ n4 ∧ n4 ≤ 3000) (c_8 : ((-3000) : Int32) ≤ n5 ∧ n5 ≤ 3000) : ss3 < 8 := by
  first | assumption | omega | decide
set_option maxHeartbeats 4000000 in
set_option maxRecDepth 100000 in
theorem c_X11_lies (l : Launch) (D : va_G) (cI cB cZ cJ : ClassId) (tx : List (ClassId × FieldType)) (a : Nat → Nat) (ap : Int32) (sn : Nat) (sk : Nat) (scu : Int32) (sch : Int32) (g0 : Nat → Int32) (g1 : Nat → Int32) (g3 : Nat → Int32) (g5 : Nat → Int32) (n1 : Int32) (n2 : Int32) (n3 : Int32) (n4 : Int32) (n5 : Int32) (hsn : sn ≤ 24) (hsk : sk ≤ 8) : WrI l D cI cB cZ cJ tx yX11_lies cX11_lies 7 (some .boolean) 2 0 0 [.ref (a 0), .int n1, .int n2, .int n3, .int n4, .int n5] [(a 0, .inr (11, [.ref (a 1), .ref (a 2), .ref (a 3), .ref (a 4), .ref (a 5), .ref (a 6), .ref (a 7), .ref (a 8), .ref (a 9), .ref (a 10), .ref (a 11), .ref (a 12), .int ap])), (a 5, .inr (4, [.ref (a 18), .ref (a 19), .ref (a 20), .ref (a 21), .ref (a 22), .ref (a 23), .ref (a 24), .int (nI sn), .int (nI sk), .int scu, .int sch])), (a 18, .inl (cI, 384, .inl g0)), (a 19, .inl (cI, 384, .inl g1)), (a 21, .inl (cZ, 384, .inl g3)), (a 23, .inl (cI, 8, .inl g5))] (fun (r : Int32) (v : (Nat → Int32) × (Nat → Int32) × (Nat → Int32) × (Nat → Int32)) => True) (fun v => [(a 0, .inr (11, [.ref (a 1), .ref (a 2), .ref (a 3), .ref (a 4), .ref (a 5), .ref (a 6), .ref (a 7), .ref (a 8), .ref (a 9), .ref (a 10), .ref (a 11), .ref (a 12), .int ap])), (a 5, .inr (4, [.ref (a 18), .ref (a 19), .ref (a 20), .ref (a 21), .ref (a 22), .ref (a 23), .ref (a 24), .int (nI sn), .int (nI sk), .int scu, .int sch])), (a 18, .inl (cI, 384, .inl v.1)), (a 19, .inl (cI, 384, .inl v.2.1)), (a 21, .inl (cZ, 384, .inl v.2.2.1)), (a 23, .inl (cI, 8, .inl v.2.2.2))]) := by
  refine wri_of2 (by decide) (Nat.le_of_ble_eq_true rfl) ?_
  intro p e s m below meth c A ls H locs hC hK hP hD hA hS hl
  obtain ⟨hx, hb, hr, hml, hown, hts, hlocks, hin⟩ := hC
  have hown : s.vm.findClass RX11 = some m.cls := hown
  have hl : lv_has ls 7 [(0, .ref (a 0)), (1, .int n1), (2, .int n2), (3, .int n3), (4, .int n4), (5, .int n5)] := hl
  refine lv_aload_n hx hb dX11_lies_0 rfl (lv_at hl 0 rfl) ?_
  refine va_get (D := D) (ci := 11) (v := .ref (a 5)) (C := RX11) (T := TX11) (N := 13) hx hb hts inT_X11 hown hK.1 hP 0 rfl rfl 4 (by decide) (hts _ k_487) (fun _ h9 => h9) rfl dX11_lies_1 ?_
  refine lv_iload_n hx hb dX11_lies_4 rfl (lv_at hl 1 rfl) ?_
  refine lv_iload_n hx hb dX11_lies_5 rfl (lv_at hl 2 rfl) ?_
  refine lv_iload_n hx hb dX11_lies_6 rfl (lv_at hl 3 rfl) ?_
  refine eRi (va_runV (As := [.int n1, .int n2, .int n3]) (rest := []) ⟨hx, hb, hml, hown, hts⟩ (c_X4_rivetAt_a l D cI cB cZ cJ tx a sn sk scu sch n1 n2 n3 (lf_X11_lies_1 a ap sn sk scu sch g0 g1 g3 g5 n1 n2 n3 n4 n5 hsn hsk) (lf_X11_lies_2 a ap sn sk scu sch g0 g1 g3 g5 n1 n2 n3 n4 n5 hsn hsk) H.size) (zV hts k_850 v_X4_rivetAt ⟨Nat.le_of_ble_eq_true rfl, Nat.le_of_ble_eq_true rfl⟩) (pV (px1 hK hP 1 rfl) hK hP 1 rfl rfl) rfl rfl hl.1 rfl (lv_room (Nat.le_of_ble_eq_true rfl)) dX11_lies_7 ⟨Nat.le_of_ble_eq_true rfl, Nat.le_of_ble_eq_true rfl⟩) hP hS hA (fun r_3 H locs wr_3 hP hS => ?_)
  rcases wr_3 with rfl | ⟨ff3, ss3, dd3, hff3, hss3, hdd3, rfl, rfl, rfl, rfl⟩
  · refine lv_istore (lv' := [(6, .int (-1)), (0, .ref (a 0)), (1, .int n1), (2, .int n2), (3, .int n3), (4, .int n4), (5, .int n5)]) hx hb dX11_lies_10 hl (by decide) rfl (fun ls hl => ?_)
    refine lv_iload hx hb dX11_lies_12 (lv_at hl 0 rfl) ?_
    refine lv_if_lt (tgt := 45) hx hb dX11_lies_14 (by decide) (fun _ => ?_) (fun c => absurd c (by decide))
    refine lv_iconst (v := 0) hx hb dX11_lies_45 (by decide) ?_
    exact W.zret (v := 0) hx hb hr (by decide) (fun tt9 ht hW => ⟨⟨(0 : Int32), ((g0 : Nat → Int32), (g1 : Nat → Int32), (g3 : Nat → Int32), (g5 : Nat → Int32)), rfl, trivial, ⟨by rw [ht]; exact hP, hD⟩⟩, hS.F ht⟩) hS.2.2 dX11_lies_46 hlocks
  · refine lv_istore (lv' := [(6, .int (nI ((ff3 * 8 + ss3) * 2 + dd3))), (0, .ref (a 0)), (1, .int (nI ff3)), (2, .int (nI ss3)), (3, .int (nI dd3)), (4, .int n4), (5, .int n5)]) hx hb dX11_lies_10 hl (by decide) rfl (fun ls hl => ?_)
    refine lv_iload hx hb dX11_lies_12 (lv_at hl 0 rfl) ?_
    refine lv_if_lt (tgt := 45) hx hb dX11_lies_14 (by decide) (fun c => absurd c (lf_X11_lies_4 a ap sn sk scu sch g0 g1 g3 g5 (nI ff3) (nI ss3) (nI dd3) n4 n5 hsn hsk ff3 ss3 dd3 hff3 hss3 hdd3)) (fun _ => ?_)
    refine lv_iload hx hb dX11_lies_17 (lv_at hl 5 rfl) ?_
    refine lv_sipush (v := (-3000)) hx hb dX11_lies_19 (by decide) ?_
    refine lv_sipush (v := 3000) hx hb dX11_lies_22 (by decide) ?_
    refine eRi (va_runS (As := [.int n4, .int (-3000), .int 3000]) (rest := []) ⟨hx, hb, hml, hown, hts⟩ (c_X11_within l D cI cB cZ cJ tx n4 (-3000) 3000 H.size) (zS hts k_527 v_X11_within ⟨Nat.le_of_ble_eq_true rfl, Nat.le_of_ble_eq_true rfl⟩) (px0 hK) rfl rfl hl.1 rfl (lv_room (Nat.le_of_ble_eq_true rfl)) dX11_lies_25 ⟨Nat.le_of_ble_eq_true rfl, Nat.le_of_ble_eq_true rfl⟩) hP hS hA (fun r_5 H locs wr_5 hP hS => ?_)
    subst wr_5
    refine lv_bi_eq (tgt := 45) hx hb dX11_lies_28 (by decide) (fun c_6 => ?_) (fun c_6 => ?_)
    · refine lv_iconst (v := 0) hx hb dX11_lies_45 (by decide) ?_
      exact W.zret (v := 0) hx hb hr (by decide) (fun tt9 ht hW => ⟨⟨(0 : Int32), ((g0 : Nat → Int32), (g1 : Nat → Int32), (g3 : Nat → Int32), (g5 : Nat → Int32)), rfl, trivial, ⟨by rw [ht]; exact hP, hD⟩⟩, hS.F ht⟩) hS.2.2 dX11_lies_46 hlocks
    · refine lv_iload hx hb dX11_lies_31 (lv_at hl 6 rfl) ?_
      refine lv_sipush (v := (-3000)) hx hb dX11_lies_33 (by decide) ?_
      refine lv_sipush (v := 3000) hx hb dX11_lies_36 (by decide) ?_
      refine eRi (va_runS (As := [.int n5, .int (-3000), .int 3000]) (rest := []) ⟨hx, hb, hml, hown, hts⟩ (c_X11_within l D cI cB cZ cJ tx n5 (-3000) 3000 H.size) (zS hts k_527 v_X11_within ⟨Nat.le_of_ble_eq_true rfl, Nat.le_of_ble_eq_true rfl⟩) (px0 hK) rfl rfl hl.1 rfl (lv_room (Nat.le_of_ble_eq_true rfl)) dX11_lies_39 ⟨Nat.le_of_ble_eq_true rfl, Nat.le_of_ble_eq_true rfl⟩) hP hS hA (fun r_7 H locs wr_7 hP hS => ?_)
      subst wr_7
      refine lv_bi_ne (tgt := 47) hx hb dX11_lies_42 (by decide) (fun c_8 => ?_) (fun c_8 => ?_)
      · refine lv_aload_n hx hb dX11_lies_47 rfl (lv_at hl 1 rfl) ?_
        refine va_get (D := D) (ci := 11) (v := .ref (a 5)) (C := RX11) (T := TX11) (N := 13) hx hb hts inT_X11 hown hK.1 hP 0 rfl rfl 4 (by decide) (hts _ k_487) (fun _ h9 => h9) rfl dX11_lies_48 ?_
        refine lv_iload hx hb dX11_lies_51 (lv_at hl 0 rfl) ?_
        refine lv_iload_n hx hb dX11_lies_53 rfl (lv_at hl 3 rfl) ?_
        refine lv_iload hx hb dX11_lies_54 (lv_at hl 5 rfl) ?_
        refine lv_iload hx hb dX11_lies_56 (lv_at hl 6 rfl) ?_
        refine eWv (wr := [(a 0, .inr (11, [.ref (a 1), .ref (a 2), .ref (a 3), .ref (a 4), .ref (a 5), .ref (a 6), .ref (a 7), .ref (a 8), .ref (a 9), .ref (a 10), .ref (a 11), .ref (a 12), .int ap]))]) (va_runV (As := [.int (nI ((ff3 * 8 + ss3) * 2 + dd3)), .int (nI ss3), .int n4, .int n5]) (rest := []) ⟨hx, hb, hml, hown, hts⟩ (c_X4_tell l D cI cB cZ cJ tx a sn sk scu sch g0 g1 g3 g5 ((ff3 * 8 + ss3) * 2 + dd3) ss3 n4 n5 (lf_X11_lies_9 a ap sn sk scu sch g0 g1 g3 g5 (nI ff3) (nI ss3) (nI dd3) n4 n5 hsn hsk ff3 ss3 dd3 hff3 hss3 hdd3 c_6 c_8) (lf_X11_lies_10 a ap sn sk scu sch g0 g1 g3 g5 (nI ff3) (nI ss3) (nI dd3) n4 n5 hsn hsk ff3 ss3 dd3 hff3 hss3 hdd3 c_6 c_8) H.size) (zV hts k_851 v_X4_tell ⟨Nat.le_of_ble_eq_true rfl, Nat.le_of_ble_eq_true rfl⟩) (pV (pxS hK hP hD [1, 2, 3, 4, 5] (by decide) rfl) hK hP 1 rfl rfl) rfl rfl hl.1 rfl (lv_room (Nat.le_of_ble_eq_true rfl)) dX11_lies_58 ⟨Nat.le_of_ble_eq_true rfl, Nat.le_of_ble_eq_true rfl⟩) hP hD hS hA [1, 2, 3, 4, 5] [0] rfl rfl (by decide) (by decide) (fun u_12 H locs wr_11 hP hD hS => ?_)
        obtain ⟨g0_12, g1_12, g3_12, g5_12⟩ := u_12
        have hP : va_P D vwCl [(a 0, .inr (11, [.ref (a 1), .ref (a 2), .ref (a 3), .ref (a 4), .ref (a 5), .ref (a 6), .ref (a 7), .ref (a 8), .ref (a 9), .ref (a 10), .ref (a 11), .ref (a 12), .int ap])), (a 5, .inr (4, [.ref (a 18), .ref (a 19), .ref (a 20), .ref (a 21), .ref (a 22), .ref (a 23), .ref (a 24), .int (nI sn), .int (nI sk), .int scu, .int sch])), (a 18, .inl (cI, 384, .inl g0_12)), (a 19, .inl (cI, 384, .inl g1_12)), (a 21, .inl (cZ, 384, .inl g3_12)), (a 23, .inl (cI, 8, .inl g5_12))] H := hP
        have hD : va_D A [(a 0, .inr (11, [.ref (a 1), .ref (a 2), .ref (a 3), .ref (a 4), .ref (a 5), .ref (a 6), .ref (a 7), .ref (a 8), .ref (a 9), .ref (a 10), .ref (a 11), .ref (a 12), .int ap])), (a 5, .inr (4, [.ref (a 18), .ref (a 19), .ref (a 20), .ref (a 21), .ref (a 22), .ref (a 23), .ref (a 24), .int (nI sn), .int (nI sk), .int scu, .int sch])), (a 18, .inl (cI, 384, .inl g0_12)), (a 19, .inl (cI, 384, .inl g1_12)), (a 21, .inl (cZ, 384, .inl g3_12)), (a 23, .inl (cI, 8, .inl g5_12))] := hD
        refine lv_iconst (v := 1) hx hb dX11_lies_61 (by decide) ?_
        exact W.zret (v := 1) hx hb hr (by decide) (fun tt9 ht hW => ⟨⟨(1 : Int32), ((g0_12 : Nat → Int32), (g1_12 : Nat → Int32), (g3_12 : Nat → Int32), (g5_12 : Nat → Int32)), rfl, trivial, ⟨by rw [ht]; exact hP, hD⟩⟩, hS.F ht⟩) hS.2.2 dX11_lies_62 hlocks
      · refine lv_iconst (v := 0) hx hb dX11_lies_45 (by decide) ?_
        exact W.zret (v := 0) hx hb hr (by decide) (fun tt9 ht hW => ⟨⟨(0 : Int32), ((g0 : Nat → Int32), (g1 : Nat → Int32), (g3 : Nat → Int32), (g5 : Nat → Int32)), rfl, trivial, ⟨by rw [ht]; exact hP, hD⟩⟩, hS.F ht⟩) hS.2.2 dX11_lies_46 hlocks

theorem lf_X11_gone_1 (a : Nat → Nat) (ap : Int32) (sn : Nat) (sk : Nat) (scu : Int32) (sch : Int32) (g3 : Nat → Int32) (g5 : Nat → Int32) (n1 : Int32) (n2 : Int32) (n3 : Int32) (hsn : sn ≤ 24) (hsk : sk ≤ 8) : sn ≤ 24 := by
  first | assumption | omega | decide
theorem lf_X11_gone_2 (a : Nat → Nat) (ap : Int32) (sn : Nat) (sk : Nat) (scu : Int32) (sch : Int32) (g3 : Nat → Int32) (g5 : Nat → Int32) (n1 : Int32) (n2 : Int32) (n3 : Int32) (hsn : sn ≤ 24) (hsk : sk ≤ 8) : sk ≤ 8 := by
  first | assumption | omega | decide
theorem lf_X11_gone_4 (a : Nat → Nat) (ap : Int32) (sn : Nat) (sk : Nat) (scu : Int32) (sch : Int32) (g3 : Nat → Int32) (g5 : Nat → Int32) (n1 : Int32) (n2 : Int32) (n3 : Int32) (hsn : sn ≤ 24) (hsk : sk ≤ 8) (ff3 : Nat) (ss3 : Nat) (dd3 : Nat) (hff3 : ff3 < sn) (hss3 : ss3 < sk) (hdd3 : dd3 < 2) : ¬ nI ((ff3 * 8 + ss3) * 2 + dd3) < 0 := by
  first | exact nI_pos (by omega) | exact nI_pos' (by omega)
theorem lf_X11_gone_5 (a : Nat → Nat) (ap : Int32) (sn : Nat) (sk : Nat) (scu : Int32) (sch : Int32) (g3 : Nat → Int32) (g5 : Nat → Int32) (n1 : Int32) (n2 : Int32) (n3 : Int32) (hsn : sn ≤ 24) (hsk : sk ≤ 8) (ff3 : Nat) (ss3 : Nat) (dd3 : Nat) (hff3 : ff3 < sn) (hss3 : ss3 < sk) (hdd3 : dd3 < 2) : vp_in (nI ((ff3 * 8 + ss3) * 2 + dd3)) 384 := by
  first | exact vp_in_nI (by omega) (by decide) | (unfold vp_in; decide)
theorem lf_X11_gone_8 (a : Nat → Nat) (ap : Int32) (sn : Nat) (sk : Nat) (scu : Int32) (sch : Int32) (g3 : Nat → Int32) (g5 : Nat → Int32) (n1 : Int32) (n2 : Int32) (n3 : Int32) (hsn : sn ≤ 24) (hsk : sk ≤ 8) (ff3 : Nat) (ss3 : Nat) (dd3 : Nat) (hff3 : ff3 < sn) (hss3 : ss3 < sk) (hdd3 : dd3 < 2) (x_6 : Int32) (c_7 : x_6 = 0) : ((ff3 * 8 + ss3) * 2 + dd3) < 384 := by
  first | assumption | omega | decide
theorem lf_X11_gone_9 (a : Nat → Nat) (ap : Int32) (sn : Nat) (sk : Nat) (scu : Int32) (sch : Int32) (g3 : Nat → Int32) (g5 : Nat → Int32) (n1 : Int32) (n2 : Int32) (n3 : Int32) (hsn : sn ≤ 24) (hsk : sk ≤ 8) (ff3 : Nat) (ss3 : Nat) (dd3 : Nat) (hff3 : ff3 < sn) (hss3 : ss3 < sk) (hdd3 : dd3 < 2) (x_6 : Int32) (c_7 : x_6 = 0) : ss3 < 8 := by
  first | assumption | omega | decide
set_option maxHeartbeats 4000000 in
set_option maxRecDepth 100000 in
theorem c_X11_gone (l : Launch) (D : va_G) (cI cB cZ cJ : ClassId) (tx : List (ClassId × FieldType)) (a : Nat → Nat) (ap : Int32) (sn : Nat) (sk : Nat) (scu : Int32) (sch : Int32) (g3 : Nat → Int32) (g5 : Nat → Int32) (n1 : Int32) (n2 : Int32) (n3 : Int32) (hsn : sn ≤ 24) (hsk : sk ≤ 8) : WrI l D cI cB cZ cJ tx yX11_gone cX11_gone 5 (some .boolean) 2 0 0 [.ref (a 0), .int n1, .int n2, .int n3] [(a 0, .inr (11, [.ref (a 1), .ref (a 2), .ref (a 3), .ref (a 4), .ref (a 5), .ref (a 6), .ref (a 7), .ref (a 8), .ref (a 9), .ref (a 10), .ref (a 11), .ref (a 12), .int ap])), (a 5, .inr (4, [.ref (a 18), .ref (a 19), .ref (a 20), .ref (a 21), .ref (a 22), .ref (a 23), .ref (a 24), .int (nI sn), .int (nI sk), .int scu, .int sch])), (a 21, .inl (cZ, 384, .inl g3)), (a 23, .inl (cI, 8, .inl g5))] (fun (r : Int32) (v : (Nat → Int32) × (Nat → Int32)) => True) (fun v => [(a 0, .inr (11, [.ref (a 1), .ref (a 2), .ref (a 3), .ref (a 4), .ref (a 5), .ref (a 6), .ref (a 7), .ref (a 8), .ref (a 9), .ref (a 10), .ref (a 11), .ref (a 12), .int ap])), (a 5, .inr (4, [.ref (a 18), .ref (a 19), .ref (a 20), .ref (a 21), .ref (a 22), .ref (a 23), .ref (a 24), .int (nI sn), .int (nI sk), .int scu, .int sch])), (a 21, .inl (cZ, 384, .inl v.1)), (a 23, .inl (cI, 8, .inl v.2))]) := by
  refine wri_of2 (by decide) (Nat.le_of_ble_eq_true rfl) ?_
  intro p e s m below meth c A ls H locs hC hK hP hD hA hS hl
  obtain ⟨hx, hb, hr, hml, hown, hts, hlocks, hin⟩ := hC
  have hown : s.vm.findClass RX11 = some m.cls := hown
  have hl : lv_has ls 5 [(0, .ref (a 0)), (1, .int n1), (2, .int n2), (3, .int n3)] := hl
  refine lv_aload_n hx hb dX11_gone_0 rfl (lv_at hl 0 rfl) ?_
  refine va_get (D := D) (ci := 11) (v := .ref (a 5)) (C := RX11) (T := TX11) (N := 13) hx hb hts inT_X11 hown hK.1 hP 0 rfl rfl 4 (by decide) (hts _ k_487) (fun _ h9 => h9) rfl dX11_gone_1 ?_
  refine lv_iload_n hx hb dX11_gone_4 rfl (lv_at hl 1 rfl) ?_
  refine lv_iload_n hx hb dX11_gone_5 rfl (lv_at hl 2 rfl) ?_
  refine lv_iload_n hx hb dX11_gone_6 rfl (lv_at hl 3 rfl) ?_
  refine eRi (va_runV (As := [.int n1, .int n2, .int n3]) (rest := []) ⟨hx, hb, hml, hown, hts⟩ (c_X4_rivetAt_a l D cI cB cZ cJ tx a sn sk scu sch n1 n2 n3 (lf_X11_gone_1 a ap sn sk scu sch g3 g5 n1 n2 n3 hsn hsk) (lf_X11_gone_2 a ap sn sk scu sch g3 g5 n1 n2 n3 hsn hsk) H.size) (zV hts k_850 v_X4_rivetAt ⟨Nat.le_of_ble_eq_true rfl, Nat.le_of_ble_eq_true rfl⟩) (pV (px1 hK hP 1 rfl) hK hP 1 rfl rfl) rfl rfl hl.1 rfl (lv_room (Nat.le_of_ble_eq_true rfl)) dX11_gone_7 ⟨Nat.le_of_ble_eq_true rfl, Nat.le_of_ble_eq_true rfl⟩) hP hS hA (fun r_3 H locs wr_3 hP hS => ?_)
  rcases wr_3 with rfl | ⟨ff3, ss3, dd3, hff3, hss3, hdd3, rfl, rfl, rfl, rfl⟩
  · refine lv_istore (lv' := [(4, .int (-1)), (0, .ref (a 0)), (1, .int n1), (2, .int n2), (3, .int n3)]) hx hb dX11_gone_10 hl (by decide) rfl (fun ls hl => ?_)
    refine lv_iload hx hb dX11_gone_12 (lv_at hl 0 rfl) ?_
    refine lv_if_lt (tgt := 30) hx hb dX11_gone_14 (by decide) (fun _ => ?_) (fun c => absurd c (by decide))
    refine lv_iconst (v := 0) hx hb dX11_gone_30 (by decide) ?_
    exact W.zret (v := 0) hx hb hr (by decide) (fun tt9 ht hW => ⟨⟨(0 : Int32), ((g3 : Nat → Int32), (g5 : Nat → Int32)), rfl, trivial, ⟨by rw [ht]; exact hP, hD⟩⟩, hS.F ht⟩) hS.2.2 dX11_gone_31 hlocks
  · refine lv_istore (lv' := [(4, .int (nI ((ff3 * 8 + ss3) * 2 + dd3))), (0, .ref (a 0)), (1, .int (nI ff3)), (2, .int (nI ss3)), (3, .int (nI dd3))]) hx hb dX11_gone_10 hl (by decide) rfl (fun ls hl => ?_)
    refine lv_iload hx hb dX11_gone_12 (lv_at hl 0 rfl) ?_
    refine lv_if_lt (tgt := 30) hx hb dX11_gone_14 (by decide) (fun c => absurd c (lf_X11_gone_4 a ap sn sk scu sch g3 g5 (nI ff3) (nI ss3) (nI dd3) hsn hsk ff3 ss3 dd3 hff3 hss3 hdd3)) (fun _ => ?_)
    refine lv_aload_n hx hb dX11_gone_17 rfl (lv_at hl 1 rfl) ?_
    refine va_get (D := D) (ci := 11) (v := .ref (a 5)) (C := RX11) (T := TX11) (N := 13) hx hb hts inT_X11 hown hK.1 hP 0 rfl rfl 4 (by decide) (hts _ k_487) (fun _ h9 => h9) rfl dX11_gone_18 ?_
    refine va_getN (D := D) (ci := 4) (v := .ref (a 21)) (C := RX4) (T := TX4) (N := 11) hx hb hts inT_X4 hown hK.1 hP 1 rfl rfl 3 (by decide) (va_Nw.use rfl (hK.2.2.1 _ n_242)) (fun _ h9 => h9) rfl dX11_gone_21 ?_
    refine lv_iload hx hb dX11_gone_24 (lv_at hl 0 rfl) ?_
    refine ld_z hx hb hK hP 2 rfl (lf_X11_gone_5 a ap sn sk scu sch g3 g5 (nI ff3) (nI ss3) (nI dd3) hsn hsk ff3 ss3 dd3 hff3 hss3 hdd3) dX11_gone_26 (fun x_6 => ?_)
    refine lv_if_eq (tgt := 32) hx hb dX11_gone_27 (by decide) (fun c_7 => ?_) (fun c_7 => ?_)
    · refine lv_aload_n hx hb dX11_gone_32 rfl (lv_at hl 1 rfl) ?_
      refine va_get (D := D) (ci := 11) (v := .ref (a 5)) (C := RX11) (T := TX11) (N := 13) hx hb hts inT_X11 hown hK.1 hP 0 rfl rfl 4 (by decide) (hts _ k_487) (fun _ h9 => h9) rfl dX11_gone_33 ?_
      refine lv_iload hx hb dX11_gone_36 (lv_at hl 0 rfl) ?_
      refine lv_iload_n hx hb dX11_gone_38 rfl (lv_at hl 3 rfl) ?_
      refine eWv (wr := [(a 0, .inr (11, [.ref (a 1), .ref (a 2), .ref (a 3), .ref (a 4), .ref (a 5), .ref (a 6), .ref (a 7), .ref (a 8), .ref (a 9), .ref (a 10), .ref (a 11), .ref (a 12), .int ap]))]) (va_runV (As := [.int (nI ((ff3 * 8 + ss3) * 2 + dd3)), .int (nI ss3)]) (rest := []) ⟨hx, hb, hml, hown, hts⟩ (c_X4_lose l D cI cB cZ cJ tx a sn sk scu sch g3 g5 ((ff3 * 8 + ss3) * 2 + dd3) ss3 (lf_X11_gone_8 a ap sn sk scu sch g3 g5 (nI ff3) (nI ss3) (nI dd3) hsn hsk ff3 ss3 dd3 hff3 hss3 hdd3 x_6 c_7) (lf_X11_gone_9 a ap sn sk scu sch g3 g5 (nI ff3) (nI ss3) (nI dd3) hsn hsk ff3 ss3 dd3 hff3 hss3 hdd3 x_6 c_7) H.size) (zV hts k_859 v_X4_lose ⟨Nat.le_of_ble_eq_true rfl, Nat.le_of_ble_eq_true rfl⟩) (pV (pxS hK hP hD [1, 2, 3] (by decide) rfl) hK hP 1 rfl rfl) rfl rfl hl.1 rfl (lv_room (Nat.le_of_ble_eq_true rfl)) dX11_gone_39 ⟨Nat.le_of_ble_eq_true rfl, Nat.le_of_ble_eq_true rfl⟩) hP hD hS hA [1, 2, 3] [0] rfl rfl (by decide) (by decide) (fun u_11 H locs wr_10 hP hD hS => ?_)
      obtain ⟨g3_11, g5_11⟩ := u_11
      have hP : va_P D vwCl [(a 0, .inr (11, [.ref (a 1), .ref (a 2), .ref (a 3), .ref (a 4), .ref (a 5), .ref (a 6), .ref (a 7), .ref (a 8), .ref (a 9), .ref (a 10), .ref (a 11), .ref (a 12), .int ap])), (a 5, .inr (4, [.ref (a 18), .ref (a 19), .ref (a 20), .ref (a 21), .ref (a 22), .ref (a 23), .ref (a 24), .int (nI sn), .int (nI sk), .int scu, .int sch])), (a 21, .inl (cZ, 384, .inl g3_11)), (a 23, .inl (cI, 8, .inl g5_11))] H := hP
      have hD : va_D A [(a 0, .inr (11, [.ref (a 1), .ref (a 2), .ref (a 3), .ref (a 4), .ref (a 5), .ref (a 6), .ref (a 7), .ref (a 8), .ref (a 9), .ref (a 10), .ref (a 11), .ref (a 12), .int ap])), (a 5, .inr (4, [.ref (a 18), .ref (a 19), .ref (a 20), .ref (a 21), .ref (a 22), .ref (a 23), .ref (a 24), .int (nI sn), .int (nI sk), .int scu, .int sch])), (a 21, .inl (cZ, 384, .inl g3_11)), (a 23, .inl (cI, 8, .inl g5_11))] := hD
      refine lv_iconst (v := 1) hx hb dX11_gone_42 (by decide) ?_
      exact W.zret (v := 1) hx hb hr (by decide) (fun tt9 ht hW => ⟨⟨(1 : Int32), ((g3_11 : Nat → Int32), (g5_11 : Nat → Int32)), rfl, trivial, ⟨by rw [ht]; exact hP, hD⟩⟩, hS.F ht⟩) hS.2.2 dX11_gone_43 hlocks
    · refine lv_iconst (v := 0) hx hb dX11_gone_30 (by decide) ?_
      exact W.zret (v := 0) hx hb hr (by decide) (fun tt9 ht hW => ⟨⟨(0 : Int32), ((g3 : Nat → Int32), (g5 : Nat → Int32)), rfl, trivial, ⟨by rw [ht]; exact hP, hD⟩⟩, hS.F ht⟩) hS.2.2 dX11_gone_31 hlocks

theorem lf_X11_phosphor_7 (a : Nat → Nat) (ap : Int32) (bc : Int32) (br : Int32) (bm : Int32) (ba : Int32) (bp : Int32) (pc_ : Nat → Int32) (n1 : Int32) (n2 : Int32) (n3 : Int32) (c_2 : (0 : Int32) ≤ n1 ∧ n1 ≤ 11) (tn1 : Nat) (tn1a : 0 ≤ tn1) (tn1b : tn1 ≤ 11) (tn1e : n1 = nI tn1) (c_4 : (0 : Int32) ≤ n2 ∧ n2 ≤ 5) (tn2 : Nat) (tn2a : 0 ≤ tn2) (tn2b : tn2 ≤ 5) (tn2e : n2 = nI tn2) (c_6 : (0 : Int32) ≤ n3 ∧ n3 ≤ 999) (tn3 : Nat) (tn3a : 0 ≤ tn3) (tn3b : tn3 ≤ 999) (tn3e : n3 = nI tn3) : tn1 ≤ 11 := by
  first | assumption | omega | decide
theorem lf_X11_phosphor_8 (a : Nat → Nat) (ap : Int32) (bc : Int32) (br : Int32) (bm : Int32) (ba : Int32) (bp : Int32) (pc_ : Nat → Int32) (n1 : Int32) (n2 : Int32) (n3 : Int32) (c_2 : (0 : Int32) ≤ n1 ∧ n1 ≤ 11) (tn1 : Nat) (tn1a : 0 ≤ tn1) (tn1b : tn1 ≤ 11) (tn1e : n1 = nI tn1) (c_4 : (0 : Int32) ≤ n2 ∧ n2 ≤ 5) (tn2 : Nat) (tn2a : 0 ≤ tn2) (tn2b : tn2 ≤ 5) (tn2e : n2 = nI tn2) (c_6 : (0 : Int32) ≤ n3 ∧ n3 ≤ 999) (tn3 : Nat) (tn3a : 0 ≤ tn3) (tn3b : tn3 ≤ 999) (tn3e : n3 = nI tn3) : tn2 ≤ 5 := by
  first | assumption | omega | decide
set_option maxHeartbeats 4000000 in
set_option maxRecDepth 100000 in
theorem c_X11_phosphor (l : Launch) (D : va_G) (cI cB cZ cJ : ClassId) (tx : List (ClassId × FieldType)) (a : Nat → Nat) (ap : Int32) (bc : Int32) (br : Int32) (bm : Int32) (ba : Int32) (bp : Int32) (pc_ : Nat → Int32) (n1 : Int32) (n2 : Int32) (n3 : Int32) : WrI l D cI cB cZ cJ tx yX11_phosphor cX11_phosphor 4 (some .boolean) 2 0 0 [.ref (a 0), .int n1, .int n2, .int n3] [(a 0, .inr (11, [.ref (a 1), .ref (a 2), .ref (a 3), .ref (a 4), .ref (a 5), .ref (a 6), .ref (a 7), .ref (a 8), .ref (a 9), .ref (a 10), .ref (a 11), .ref (a 12), .int ap])), (a 11, .inr (6, [.ref (a 47), .int bc, .int br, .int bm, .int ba, .int bp])), (a 47, .inl (cI, 72, .inl pc_))] (fun (r : Int32) (v : (Nat → Int32)) => True) (fun v => [(a 0, .inr (11, [.ref (a 1), .ref (a 2), .ref (a 3), .ref (a 4), .ref (a 5), .ref (a 6), .ref (a 7), .ref (a 8), .ref (a 9), .ref (a 10), .ref (a 11), .ref (a 12), .int ap])), (a 11, .inr (6, [.ref (a 47), .int bc, .int br, .int bm, .int ba, .int bp])), (a 47, .inl (cI, 72, .inl v))]) := by
  refine wri_of2 (by decide) (Nat.le_of_ble_eq_true rfl) ?_
  intro p e s m below meth c A ls H locs hC hK hP hD hA hS hl
  obtain ⟨hx, hb, hr, hml, hown, hts, hlocks, hin⟩ := hC
  have hown : s.vm.findClass RX11 = some m.cls := hown
  have hl : lv_has ls 4 [(0, .ref (a 0)), (1, .int n1), (2, .int n2), (3, .int n3)] := hl
  refine lv_iload_n hx hb dX11_phosphor_0 rfl (lv_at hl 1 rfl) ?_
  refine lv_iconst (v := 0) hx hb dX11_phosphor_1 (by decide) ?_
  refine lv_bipush (v := 11) hx hb dX11_phosphor_2 (by decide) ?_
  refine eRi (va_runS (As := [.int n1, .int 0, .int 11]) (rest := []) ⟨hx, hb, hml, hown, hts⟩ (c_X11_within l D cI cB cZ cJ tx n1 0 11 H.size) (zS hts k_527 v_X11_within ⟨Nat.le_of_ble_eq_true rfl, Nat.le_of_ble_eq_true rfl⟩) (px0 hK) rfl rfl hl.1 rfl (lv_room (Nat.le_of_ble_eq_true rfl)) dX11_phosphor_4 ⟨Nat.le_of_ble_eq_true rfl, Nat.le_of_ble_eq_true rfl⟩) hP hS hA (fun r_1 H locs wr_1 hP hS => ?_)
  subst wr_1
  refine lv_bi_eq (tgt := 30) hx hb dX11_phosphor_7 (by decide) (fun c_2 => ?_) (fun c_2 => ?_)
  · refine lv_iconst (v := 0) hx hb dX11_phosphor_30 (by decide) ?_
    exact W.zret (v := 0) hx hb hr (by decide) (fun tt9 ht hW => ⟨⟨(0 : Int32), ((pc_ : Nat → Int32)), rfl, trivial, ⟨by rw [ht]; exact hP, hD⟩⟩, hS.F ht⟩) hS.2.2 dX11_phosphor_31 hlocks
  · obtain ⟨tn1, tn1a, tn1b, tn1e⟩ := of_rng 0 11 rfl rfl c_2
    subst tn1e
    refine lv_iload_n hx hb dX11_phosphor_10 rfl (lv_at hl 2 rfl) ?_
    refine lv_iconst (v := 0) hx hb dX11_phosphor_11 (by decide) ?_
    refine lv_iconst (v := 5) hx hb dX11_phosphor_12 (by decide) ?_
    refine eRi (va_runS (As := [.int n2, .int 0, .int 5]) (rest := []) ⟨hx, hb, hml, hown, hts⟩ (c_X11_within l D cI cB cZ cJ tx n2 0 5 H.size) (zS hts k_527 v_X11_within ⟨Nat.le_of_ble_eq_true rfl, Nat.le_of_ble_eq_true rfl⟩) (px0 hK) rfl rfl hl.1 rfl (lv_room (Nat.le_of_ble_eq_true rfl)) dX11_phosphor_13 ⟨Nat.le_of_ble_eq_true rfl, Nat.le_of_ble_eq_true rfl⟩) hP hS hA (fun r_3 H locs wr_3 hP hS => ?_)
    subst wr_3
    refine lv_bi_eq (tgt := 30) hx hb dX11_phosphor_16 (by decide) (fun c_4 => ?_) (fun c_4 => ?_)
    · refine lv_iconst (v := 0) hx hb dX11_phosphor_30 (by decide) ?_
      exact W.zret (v := 0) hx hb hr (by decide) (fun tt9 ht hW => ⟨⟨(0 : Int32), ((pc_ : Nat → Int32)), rfl, trivial, ⟨by rw [ht]; exact hP, hD⟩⟩, hS.F ht⟩) hS.2.2 dX11_phosphor_31 hlocks
    · obtain ⟨tn2, tn2a, tn2b, tn2e⟩ := of_rng 0 5 rfl rfl c_4
      subst tn2e
      refine lv_iload_n hx hb dX11_phosphor_19 rfl (lv_at hl 3 rfl) ?_
      refine lv_iconst (v := 0) hx hb dX11_phosphor_20 (by decide) ?_
      refine lv_sipush (v := 999) hx hb dX11_phosphor_21 (by decide) ?_
      refine eRi (va_runS (As := [.int n3, .int 0, .int 999]) (rest := []) ⟨hx, hb, hml, hown, hts⟩ (c_X11_within l D cI cB cZ cJ tx n3 0 999 H.size) (zS hts k_527 v_X11_within ⟨Nat.le_of_ble_eq_true rfl, Nat.le_of_ble_eq_true rfl⟩) (px0 hK) rfl rfl hl.1 rfl (lv_room (Nat.le_of_ble_eq_true rfl)) dX11_phosphor_24 ⟨Nat.le_of_ble_eq_true rfl, Nat.le_of_ble_eq_true rfl⟩) hP hS hA (fun r_5 H locs wr_5 hP hS => ?_)
      subst wr_5
      refine lv_bi_ne (tgt := 32) hx hb dX11_phosphor_27 (by decide) (fun c_6 => ?_) (fun c_6 => ?_)
      · obtain ⟨tn3, tn3a, tn3b, tn3e⟩ := of_rng 0 999 rfl rfl c_6
        subst tn3e
        refine lv_aload_n hx hb dX11_phosphor_32 rfl (lv_at hl 0 rfl) ?_
        refine va_get (D := D) (ci := 11) (v := .ref (a 11)) (C := RX11) (T := TX11) (N := 13) hx hb hts inT_X11 hown hK.1 hP 0 rfl rfl 10 (by decide) (hts _ k_493) (fun _ h9 => h9) rfl dX11_phosphor_33 ?_
        refine lv_iload_n hx hb dX11_phosphor_36 rfl (lv_at hl 1 rfl) ?_
        refine lv_iload_n hx hb dX11_phosphor_37 rfl (lv_at hl 2 rfl) ?_
        refine lv_iload_n hx hb dX11_phosphor_38 rfl (lv_at hl 3 rfl) ?_
        refine eWv (wr := [(a 0, .inr (11, [.ref (a 1), .ref (a 2), .ref (a 3), .ref (a 4), .ref (a 5), .ref (a 6), .ref (a 7), .ref (a 8), .ref (a 9), .ref (a 10), .ref (a 11), .ref (a 12), .int ap]))]) (va_runV (As := [.int (nI tn1), .int (nI tn2), .int (nI tn3)]) (rest := []) ⟨hx, hb, hml, hown, hts⟩ (c_X6_put l D cI cB cZ cJ tx a bc br bm ba bp pc_ tn1 tn2 (nI tn3) (lf_X11_phosphor_7 a ap bc br bm ba bp pc_ (nI tn1) (nI tn2) (nI tn3) c_2 tn1 tn1a tn1b rfl c_4 tn2 tn2a tn2b rfl c_6 tn3 tn3a tn3b rfl) (lf_X11_phosphor_8 a ap bc br bm ba bp pc_ (nI tn1) (nI tn2) (nI tn3) c_2 tn1 tn1a tn1b rfl c_4 tn2 tn2a tn2b rfl c_6 tn3 tn3a tn3b rfl) H.size) (zV hts k_1169 v_X6_put ⟨Nat.le_of_ble_eq_true rfl, Nat.le_of_ble_eq_true rfl⟩) (pV (pxS hK hP hD [1, 2] (by decide) rfl) hK hP 1 rfl rfl) rfl rfl hl.1 rfl (lv_room (Nat.le_of_ble_eq_true rfl)) dX11_phosphor_39 ⟨Nat.le_of_ble_eq_true rfl, Nat.le_of_ble_eq_true rfl⟩) hP hD hS hA [1, 2] [0] rfl rfl (by decide) (by decide) (fun u_10 H locs wr_9 hP hD hS => ?_)
        obtain ⟨pc__10, rfl⟩ : ∃ z, z = u_10 := ⟨_, rfl⟩
        have hP : va_P D vwCl [(a 0, .inr (11, [.ref (a 1), .ref (a 2), .ref (a 3), .ref (a 4), .ref (a 5), .ref (a 6), .ref (a 7), .ref (a 8), .ref (a 9), .ref (a 10), .ref (a 11), .ref (a 12), .int ap])), (a 11, .inr (6, [.ref (a 47), .int bc, .int br, .int bm, .int ba, .int bp])), (a 47, .inl (cI, 72, .inl pc__10))] H := hP
        have hD : va_D A [(a 0, .inr (11, [.ref (a 1), .ref (a 2), .ref (a 3), .ref (a 4), .ref (a 5), .ref (a 6), .ref (a 7), .ref (a 8), .ref (a 9), .ref (a 10), .ref (a 11), .ref (a 12), .int ap])), (a 11, .inr (6, [.ref (a 47), .int bc, .int br, .int bm, .int ba, .int bp])), (a 47, .inl (cI, 72, .inl pc__10))] := hD
        refine lv_iconst (v := 1) hx hb dX11_phosphor_42 (by decide) ?_
        exact W.zret (v := 1) hx hb hr (by decide) (fun tt9 ht hW => ⟨⟨(1 : Int32), ((pc__10 : Nat → Int32)), rfl, trivial, ⟨by rw [ht]; exact hP, hD⟩⟩, hS.F ht⟩) hS.2.2 dX11_phosphor_43 hlocks
      · refine lv_iconst (v := 0) hx hb dX11_phosphor_30 (by decide) ?_
        exact W.zret (v := 0) hx hb hr (by decide) (fun tt9 ht hW => ⟨⟨(0 : Int32), ((pc_ : Nat → Int32)), rfl, trivial, ⟨by rw [ht]; exact hP, hD⟩⟩, hS.F ht⟩) hS.2.2 dX11_phosphor_31 hlocks

theorem lf_X11_story_7 (a : Nat → Nat) (ap : Int32) (y0 : Nat → Int32) (y1 : Nat → Int32) (n1 : Int32) (n2 : Int32) (n3 : Int32) (c_2 : (0 : Int32) ≤ n1 ∧ n1 ≤ 5) (tn1 : Nat) (tn1a : 0 ≤ tn1) (tn1b : tn1 ≤ 5) (tn1e : n1 = nI tn1) (c_4 : (0 : Int32) ≤ n2 ∧ n2 ≤ 5) (tn2 : Nat) (tn2a : 0 ≤ tn2) (tn2b : tn2 ≤ 5) (tn2e : n2 = nI tn2) (c_6 : (0 : Int32) ≤ n3 ∧ n3 ≤ 1000) (tn3 : Nat) (tn3a : 0 ≤ tn3) (tn3b : tn3 ≤ 1000) (tn3e : n3 = nI tn3) : tn1 ≤ 5 := by
  first | assumption | omega | decide
theorem lf_X11_story_8 (a : Nat → Nat) (ap : Int32) (y0 : Nat → Int32) (y1 : Nat → Int32) (n1 : Int32) (n2 : Int32) (n3 : Int32) (c_2 : (0 : Int32) ≤ n1 ∧ n1 ≤ 5) (tn1 : Nat) (tn1a : 0 ≤ tn1) (tn1b : tn1 ≤ 5) (tn1e : n1 = nI tn1) (c_4 : (0 : Int32) ≤ n2 ∧ n2 ≤ 5) (tn2 : Nat) (tn2a : 0 ≤ tn2) (tn2b : tn2 ≤ 5) (tn2e : n2 = nI tn2) (c_6 : (0 : Int32) ≤ n3 ∧ n3 ≤ 1000) (tn3 : Nat) (tn3a : 0 ≤ tn3) (tn3b : tn3 ≤ 1000) (tn3e : n3 = nI tn3) : tn2 ≤ 5 := by
  first | assumption | omega | decide
set_option maxHeartbeats 4000000 in
set_option maxRecDepth 100000 in
theorem c_X11_story (l : Launch) (D : va_G) (cI cB cZ cJ : ClassId) (tx : List (ClassId × FieldType)) (a : Nat → Nat) (ap : Int32) (y0 : Nat → Int32) (y1 : Nat → Int32) (n1 : Int32) (n2 : Int32) (n3 : Int32) : WrI l D cI cB cZ cJ tx yX11_story cX11_story 4 (some .boolean) 2 0 0 [.ref (a 0), .int n1, .int n2, .int n3] [(a 0, .inr (11, [.ref (a 1), .ref (a 2), .ref (a 3), .ref (a 4), .ref (a 5), .ref (a 6), .ref (a 7), .ref (a 8), .ref (a 9), .ref (a 10), .ref (a 11), .ref (a 12), .int ap])), (a 12, .inr (7, [.ref (a 48), .ref (a 49), .ref (a 50)])), (a 48, .inl (cI, 36, .inl y0)), (a 49, .inl (cZ, 6, .inl y1))] (fun (r : Int32) (v : (Nat → Int32) × (Nat → Int32)) => True) (fun v => [(a 0, .inr (11, [.ref (a 1), .ref (a 2), .ref (a 3), .ref (a 4), .ref (a 5), .ref (a 6), .ref (a 7), .ref (a 8), .ref (a 9), .ref (a 10), .ref (a 11), .ref (a 12), .int ap])), (a 12, .inr (7, [.ref (a 48), .ref (a 49), .ref (a 50)])), (a 48, .inl (cI, 36, .inl v.1)), (a 49, .inl (cZ, 6, .inl v.2))]) := by
  refine wri_of2 (by decide) (Nat.le_of_ble_eq_true rfl) ?_
  intro p e s m below meth c A ls H locs hC hK hP hD hA hS hl
  obtain ⟨hx, hb, hr, hml, hown, hts, hlocks, hin⟩ := hC
  have hown : s.vm.findClass RX11 = some m.cls := hown
  have hl : lv_has ls 4 [(0, .ref (a 0)), (1, .int n1), (2, .int n2), (3, .int n3)] := hl
  refine lv_iload_n hx hb dX11_story_0 rfl (lv_at hl 1 rfl) ?_
  refine lv_iconst (v := 0) hx hb dX11_story_1 (by decide) ?_
  refine lv_iconst (v := 5) hx hb dX11_story_2 (by decide) ?_
  refine eRi (va_runS (As := [.int n1, .int 0, .int 5]) (rest := []) ⟨hx, hb, hml, hown, hts⟩ (c_X11_within l D cI cB cZ cJ tx n1 0 5 H.size) (zS hts k_527 v_X11_within ⟨Nat.le_of_ble_eq_true rfl, Nat.le_of_ble_eq_true rfl⟩) (px0 hK) rfl rfl hl.1 rfl (lv_room (Nat.le_of_ble_eq_true rfl)) dX11_story_3 ⟨Nat.le_of_ble_eq_true rfl, Nat.le_of_ble_eq_true rfl⟩) hP hS hA (fun r_1 H locs wr_1 hP hS => ?_)
  subst wr_1
  refine lv_bi_eq (tgt := 29) hx hb dX11_story_6 (by decide) (fun c_2 => ?_) (fun c_2 => ?_)
  · refine lv_iconst (v := 0) hx hb dX11_story_29 (by decide) ?_
    exact W.zret (v := 0) hx hb hr (by decide) (fun tt9 ht hW => ⟨⟨(0 : Int32), ((y0 : Nat → Int32), (y1 : Nat → Int32)), rfl, trivial, ⟨by rw [ht]; exact hP, hD⟩⟩, hS.F ht⟩) hS.2.2 dX11_story_30 hlocks
  · obtain ⟨tn1, tn1a, tn1b, tn1e⟩ := of_rng 0 5 rfl rfl c_2
    subst tn1e
    refine lv_iload_n hx hb dX11_story_9 rfl (lv_at hl 2 rfl) ?_
    refine lv_iconst (v := 0) hx hb dX11_story_10 (by decide) ?_
    refine lv_iconst (v := 5) hx hb dX11_story_11 (by decide) ?_
    refine eRi (va_runS (As := [.int n2, .int 0, .int 5]) (rest := []) ⟨hx, hb, hml, hown, hts⟩ (c_X11_within l D cI cB cZ cJ tx n2 0 5 H.size) (zS hts k_527 v_X11_within ⟨Nat.le_of_ble_eq_true rfl, Nat.le_of_ble_eq_true rfl⟩) (px0 hK) rfl rfl hl.1 rfl (lv_room (Nat.le_of_ble_eq_true rfl)) dX11_story_12 ⟨Nat.le_of_ble_eq_true rfl, Nat.le_of_ble_eq_true rfl⟩) hP hS hA (fun r_3 H locs wr_3 hP hS => ?_)
    subst wr_3
    refine lv_bi_eq (tgt := 29) hx hb dX11_story_15 (by decide) (fun c_4 => ?_) (fun c_4 => ?_)
    · refine lv_iconst (v := 0) hx hb dX11_story_29 (by decide) ?_
      exact W.zret (v := 0) hx hb hr (by decide) (fun tt9 ht hW => ⟨⟨(0 : Int32), ((y0 : Nat → Int32), (y1 : Nat → Int32)), rfl, trivial, ⟨by rw [ht]; exact hP, hD⟩⟩, hS.F ht⟩) hS.2.2 dX11_story_30 hlocks
    · obtain ⟨tn2, tn2a, tn2b, tn2e⟩ := of_rng 0 5 rfl rfl c_4
      subst tn2e
      refine lv_iload_n hx hb dX11_story_18 rfl (lv_at hl 3 rfl) ?_
      refine lv_iconst (v := 0) hx hb dX11_story_19 (by decide) ?_
      refine lv_sipush (v := 1000) hx hb dX11_story_20 (by decide) ?_
      refine eRi (va_runS (As := [.int n3, .int 0, .int 1000]) (rest := []) ⟨hx, hb, hml, hown, hts⟩ (c_X11_within l D cI cB cZ cJ tx n3 0 1000 H.size) (zS hts k_527 v_X11_within ⟨Nat.le_of_ble_eq_true rfl, Nat.le_of_ble_eq_true rfl⟩) (px0 hK) rfl rfl hl.1 rfl (lv_room (Nat.le_of_ble_eq_true rfl)) dX11_story_23 ⟨Nat.le_of_ble_eq_true rfl, Nat.le_of_ble_eq_true rfl⟩) hP hS hA (fun r_5 H locs wr_5 hP hS => ?_)
      subst wr_5
      refine lv_bi_ne (tgt := 31) hx hb dX11_story_26 (by decide) (fun c_6 => ?_) (fun c_6 => ?_)
      · obtain ⟨tn3, tn3a, tn3b, tn3e⟩ := of_rng 0 1000 rfl rfl c_6
        subst tn3e
        refine lv_aload_n hx hb dX11_story_31 rfl (lv_at hl 0 rfl) ?_
        refine va_get (D := D) (ci := 11) (v := .ref (a 12)) (C := RX11) (T := TX11) (N := 13) hx hb hts inT_X11 hown hK.1 hP 0 rfl rfl 11 (by decide) (hts _ k_494) (fun _ h9 => h9) rfl dX11_story_32 ?_
        refine lv_iload_n hx hb dX11_story_35 rfl (lv_at hl 1 rfl) ?_
        refine lv_iload_n hx hb dX11_story_36 rfl (lv_at hl 2 rfl) ?_
        refine lv_iload_n hx hb dX11_story_37 rfl (lv_at hl 3 rfl) ?_
        refine eWv (wr := [(a 0, .inr (11, [.ref (a 1), .ref (a 2), .ref (a 3), .ref (a 4), .ref (a 5), .ref (a 6), .ref (a 7), .ref (a 8), .ref (a 9), .ref (a 10), .ref (a 11), .ref (a 12), .int ap]))]) (va_runV (As := [.int (nI tn1), .int (nI tn2), .int (nI tn3)]) (rest := []) ⟨hx, hb, hml, hown, hts⟩ (c_X7_tell l D cI cB cZ cJ tx a y0 y1 tn1 tn2 (nI tn3) (lf_X11_story_7 a ap y0 y1 (nI tn1) (nI tn2) (nI tn3) c_2 tn1 tn1a tn1b rfl c_4 tn2 tn2a tn2b rfl c_6 tn3 tn3a tn3b rfl) (lf_X11_story_8 a ap y0 y1 (nI tn1) (nI tn2) (nI tn3) c_2 tn1 tn1a tn1b rfl c_4 tn2 tn2a tn2b rfl c_6 tn3 tn3a tn3b rfl) H.size) (zV hts k_1193 v_X7_tell ⟨Nat.le_of_ble_eq_true rfl, Nat.le_of_ble_eq_true rfl⟩) (pV (pxS hK hP hD [1, 2, 3] (by decide) rfl) hK hP 1 rfl rfl) rfl rfl hl.1 rfl (lv_room (Nat.le_of_ble_eq_true rfl)) dX11_story_38 ⟨Nat.le_of_ble_eq_true rfl, Nat.le_of_ble_eq_true rfl⟩) hP hD hS hA [1, 2, 3] [0] rfl rfl (by decide) (by decide) (fun u_10 H locs wr_9 hP hD hS => ?_)
        obtain ⟨y0_10, y1_10⟩ := u_10
        have hP : va_P D vwCl [(a 0, .inr (11, [.ref (a 1), .ref (a 2), .ref (a 3), .ref (a 4), .ref (a 5), .ref (a 6), .ref (a 7), .ref (a 8), .ref (a 9), .ref (a 10), .ref (a 11), .ref (a 12), .int ap])), (a 12, .inr (7, [.ref (a 48), .ref (a 49), .ref (a 50)])), (a 48, .inl (cI, 36, .inl y0_10)), (a 49, .inl (cZ, 6, .inl y1_10))] H := hP
        have hD : va_D A [(a 0, .inr (11, [.ref (a 1), .ref (a 2), .ref (a 3), .ref (a 4), .ref (a 5), .ref (a 6), .ref (a 7), .ref (a 8), .ref (a 9), .ref (a 10), .ref (a 11), .ref (a 12), .int ap])), (a 12, .inr (7, [.ref (a 48), .ref (a 49), .ref (a 50)])), (a 48, .inl (cI, 36, .inl y0_10)), (a 49, .inl (cZ, 6, .inl y1_10))] := hD
        refine lv_iconst (v := 1) hx hb dX11_story_41 (by decide) ?_
        exact W.zret (v := 1) hx hb hr (by decide) (fun tt9 ht hW => ⟨⟨(1 : Int32), ((y0_10 : Nat → Int32), (y1_10 : Nat → Int32)), rfl, trivial, ⟨by rw [ht]; exact hP, hD⟩⟩, hS.F ht⟩) hS.2.2 dX11_story_42 hlocks
      · refine lv_iconst (v := 0) hx hb dX11_story_29 (by decide) ?_
        exact W.zret (v := 0) hx hb hr (by decide) (fun tt9 ht hW => ⟨⟨(0 : Int32), ((y0 : Nat → Int32), (y1 : Nat → Int32)), rfl, trivial, ⟨by rw [ht]; exact hP, hD⟩⟩, hS.F ht⟩) hS.2.2 dX11_story_30 hlocks

theorem lf_X11_sign_6 (a : Nat → Nat) (ap : Int32) (y2 : Nat → Int32) (n1 : Int32) (n2 : Int32) (c_2 : (0 : Int32) ≤ n1 ∧ n1 ≤ 5) (tn1 : Nat) (tn1a : 0 ≤ tn1) (tn1b : tn1 ≤ 5) (tn1e : n1 = nI tn1) (c_4 : ((-1) : Int32) ≤ n2 ∧ n2 ≤ 1) : vp_in (nI tn1) 6 := by
  first | exact vp_in_nI (by omega) (by decide) | (unfold vp_in; decide)
set_option maxHeartbeats 4000000 in
set_option maxRecDepth 100000 in
theorem c_X11_sign (l : Launch) (D : va_G) (cI cB cZ cJ : ClassId) (tx : List (ClassId × FieldType)) (a : Nat → Nat) (ap : Int32) (y2 : Nat → Int32) (n1 : Int32) (n2 : Int32) : WrI l D cI cB cZ cJ tx yX11_sign cX11_sign 3 (some .boolean) 1 0 0 [.ref (a 0), .int n1, .int n2] [(a 0, .inr (11, [.ref (a 1), .ref (a 2), .ref (a 3), .ref (a 4), .ref (a 5), .ref (a 6), .ref (a 7), .ref (a 8), .ref (a 9), .ref (a 10), .ref (a 11), .ref (a 12), .int ap])), (a 12, .inr (7, [.ref (a 48), .ref (a 49), .ref (a 50)])), (a 50, .inl (cI, 6, .inl y2))] (fun (r : Int32) (v : (Nat → Int32)) => True) (fun v => [(a 0, .inr (11, [.ref (a 1), .ref (a 2), .ref (a 3), .ref (a 4), .ref (a 5), .ref (a 6), .ref (a 7), .ref (a 8), .ref (a 9), .ref (a 10), .ref (a 11), .ref (a 12), .int ap])), (a 12, .inr (7, [.ref (a 48), .ref (a 49), .ref (a 50)])), (a 50, .inl (cI, 6, .inl v))]) := by
  refine wri_of2 (by decide) (Nat.le_of_ble_eq_true rfl) ?_
  intro p e s m below meth c A ls H locs hC hK hP hD hA hS hl
  obtain ⟨hx, hb, hr, hml, hown, hts, hlocks, hin⟩ := hC
  have hown : s.vm.findClass RX11 = some m.cls := hown
  have hl : lv_has ls 3 [(0, .ref (a 0)), (1, .int n1), (2, .int n2)] := hl
  refine lv_iload_n hx hb dX11_sign_0 rfl (lv_at hl 1 rfl) ?_
  refine lv_iconst (v := 0) hx hb dX11_sign_1 (by decide) ?_
  refine lv_iconst (v := 5) hx hb dX11_sign_2 (by decide) ?_
  refine eRi (va_runS (As := [.int n1, .int 0, .int 5]) (rest := []) ⟨hx, hb, hml, hown, hts⟩ (c_X11_within l D cI cB cZ cJ tx n1 0 5 H.size) (zS hts k_527 v_X11_within ⟨Nat.le_of_ble_eq_true rfl, Nat.le_of_ble_eq_true rfl⟩) (px0 hK) rfl rfl hl.1 rfl (lv_room (Nat.le_of_ble_eq_true rfl)) dX11_sign_3 ⟨Nat.le_of_ble_eq_true rfl, Nat.le_of_ble_eq_true rfl⟩) hP hS hA (fun r_1 H locs wr_1 hP hS => ?_)
  subst wr_1
  refine lv_bi_eq (tgt := 18) hx hb dX11_sign_6 (by decide) (fun c_2 => ?_) (fun c_2 => ?_)
  · refine lv_iconst (v := 0) hx hb dX11_sign_18 (by decide) ?_
    exact W.zret (v := 0) hx hb hr (by decide) (fun tt9 ht hW => ⟨⟨(0 : Int32), ((y2 : Nat → Int32)), rfl, trivial, ⟨by rw [ht]; exact hP, hD⟩⟩, hS.F ht⟩) hS.2.2 dX11_sign_19 hlocks
  · obtain ⟨tn1, tn1a, tn1b, tn1e⟩ := of_rng 0 5 rfl rfl c_2
    subst tn1e
    refine lv_iload_n hx hb dX11_sign_9 rfl (lv_at hl 2 rfl) ?_
    refine lv_iconst (v := (-1)) hx hb dX11_sign_10 (by decide) ?_
    refine lv_iconst (v := 1) hx hb dX11_sign_11 (by decide) ?_
    refine eRi (va_runS (As := [.int n2, .int (-1), .int 1]) (rest := []) ⟨hx, hb, hml, hown, hts⟩ (c_X11_within l D cI cB cZ cJ tx n2 (-1) 1 H.size) (zS hts k_527 v_X11_within ⟨Nat.le_of_ble_eq_true rfl, Nat.le_of_ble_eq_true rfl⟩) (px0 hK) rfl rfl hl.1 rfl (lv_room (Nat.le_of_ble_eq_true rfl)) dX11_sign_12 ⟨Nat.le_of_ble_eq_true rfl, Nat.le_of_ble_eq_true rfl⟩) hP hS hA (fun r_3 H locs wr_3 hP hS => ?_)
    subst wr_3
    refine lv_bi_ne (tgt := 20) hx hb dX11_sign_15 (by decide) (fun c_4 => ?_) (fun c_4 => ?_)
    · refine lv_aload_n hx hb dX11_sign_20 rfl (lv_at hl 0 rfl) ?_
      refine va_get (D := D) (ci := 11) (v := .ref (a 12)) (C := RX11) (T := TX11) (N := 13) hx hb hts inT_X11 hown hK.1 hP 0 rfl rfl 11 (by decide) (hts _ k_494) (fun _ h9 => h9) rfl dX11_sign_21 ?_
      refine va_getN (D := D) (ci := 7) (v := .ref (a 50)) (C := RX7) (T := TX7) (N := 3) hx hb hts inT_X7 hown hK.1 hP 1 rfl rfl 2 (by decide) (va_Nw.use rfl (hK.2.2.1 _ n_475)) (fun _ h9 => h9) rfl dX11_sign_24 ?_
      refine lv_iload_n hx hb dX11_sign_27 rfl (lv_at hl 1 rfl) ?_
      refine lv_iload_n hx hb dX11_sign_28 rfl (lv_at hl 2 rfl) ?_
      refine st_i hx hb hK hP hD hS 2 rfl (lf_X11_sign_6 a ap y2 (nI tn1) n2 c_2 tn1 tn1a tn1b rfl c_4) dX11_sign_29 (fun f_5 H locs hP hD hS => ?_)
      have hP : va_P D vwCl [(a 0, .inr (11, [.ref (a 1), .ref (a 2), .ref (a 3), .ref (a 4), .ref (a 5), .ref (a 6), .ref (a 7), .ref (a 8), .ref (a 9), .ref (a 10), .ref (a 11), .ref (a 12), .int ap])), (a 12, .inr (7, [.ref (a 48), .ref (a 49), .ref (a 50)])), (a 50, .inl (cI, 6, .inl f_5))] H := hP
      have hD : va_D A [(a 0, .inr (11, [.ref (a 1), .ref (a 2), .ref (a 3), .ref (a 4), .ref (a 5), .ref (a 6), .ref (a 7), .ref (a 8), .ref (a 9), .ref (a 10), .ref (a 11), .ref (a 12), .int ap])), (a 12, .inr (7, [.ref (a 48), .ref (a 49), .ref (a 50)])), (a 50, .inl (cI, 6, .inl f_5))] := hD
      refine lv_iconst (v := 1) hx hb dX11_sign_30 (by decide) ?_
      exact W.zret (v := 1) hx hb hr (by decide) (fun tt9 ht hW => ⟨⟨(1 : Int32), ((f_5 : Nat → Int32)), rfl, trivial, ⟨by rw [ht]; exact hP, hD⟩⟩, hS.F ht⟩) hS.2.2 dX11_sign_31 hlocks
    · refine lv_iconst (v := 0) hx hb dX11_sign_18 (by decide) ?_
      exact W.zret (v := 0) hx hb hr (by decide) (fun tt9 ht hW => ⟨⟨(0 : Int32), ((y2 : Nat → Int32)), rfl, trivial, ⟨by rw [ht]; exact hP, hD⟩⟩, hS.F ht⟩) hS.2.2 dX11_sign_19 hlocks

theorem lf_X11_thole_3 (a : Nat → Nat) (ap : Int32) (sn : Nat) (sk : Nat) (scu : Int32) (sch : Int32) (ot : Nat → Int32) (n1 : Int32) (n2 : Int32) (n3 : Int32) (hsn : sn ≤ 24) (hsk : sk ≤ 8) (c_2 : (0 : Int32) ≤ n1 ∧ n1 ≤ nI sn - 1) : sn < 2 ^ 31 := by
  omega
theorem lf_X11_thole_8 (a : Nat → Nat) (ap : Int32) (sn : Nat) (sk : Nat) (scu : Int32) (sch : Int32) (ot : Nat → Int32) (n1 : Int32) (n2 : Int32) (n3 : Int32) (hsn : sn ≤ 24) (hsk : sk ≤ 8) (c_2 : (0 : Int32) ≤ n1 ∧ n1 ≤ nI sn - 1) (tn1 : Nat) (tn1a : tn1 < sn) (tn1e : n1 = nI tn1) (c_5 : (0 : Int32) ≤ n2 ∧ n2 ≤ 1) (tn2 : Nat) (tn2a : 0 ≤ tn2) (tn2b : tn2 ≤ 1) (tn2e : n2 = nI tn2) (c_7 : ((-1) : Int32) ≤ n3 ∧ n3 ≤ 1) : tn1 < 24 := by
  first | assumption | omega | decide
theorem lf_X11_thole_9 (a : Nat → Nat) (ap : Int32) (sn : Nat) (sk : Nat) (scu : Int32) (sch : Int32) (ot : Nat → Int32) (n1 : Int32) (n2 : Int32) (n3 : Int32) (hsn : sn ≤ 24) (hsk : sk ≤ 8) (c_2 : (0 : Int32) ≤ n1 ∧ n1 ≤ nI sn - 1) (tn1 : Nat) (tn1a : tn1 < sn) (tn1e : n1 = nI tn1) (c_5 : (0 : Int32) ≤ n2 ∧ n2 ≤ 1) (tn2 : Nat) (tn2a : 0 ≤ tn2) (tn2b : tn2 ≤ 1) (tn2e : n2 = nI tn2) (c_7 : ((-1) : Int32) ≤ n3 ∧ n3 ≤ 1) : tn2 < 2 := by
  first | assumption | omega | decide
set_option maxHeartbeats 4000000 in
set_option maxRecDepth 100000 in
theorem c_X11_thole (l : Launch) (D : va_G) (cI cB cZ cJ : ClassId) (tx : List (ClassId × FieldType)) (a : Nat → Nat) (ap : Int32) (sn : Nat) (sk : Nat) (scu : Int32) (sch : Int32) (ot : Nat → Int32) (n1 : Int32) (n2 : Int32) (n3 : Int32) (hsn : sn ≤ 24) (hsk : sk ≤ 8) : WrI l D cI cB cZ cJ tx yX11_thole cX11_thole 4 (some .boolean) 2 0 0 [.ref (a 0), .int n1, .int n2, .int n3] [(a 0, .inr (11, [.ref (a 1), .ref (a 2), .ref (a 3), .ref (a 4), .ref (a 5), .ref (a 6), .ref (a 7), .ref (a 8), .ref (a 9), .ref (a 10), .ref (a 11), .ref (a 12), .int ap])), (a 5, .inr (4, [.ref (a 18), .ref (a 19), .ref (a 20), .ref (a 21), .ref (a 22), .ref (a 23), .ref (a 24), .int (nI sn), .int (nI sk), .int scu, .int sch])), (a 10, .inr (10, [.ref (a 5), .ref (a 46)])), (a 46, .inl (cI, 48, .inl ot))] (fun (r : Int32) (v : (Nat → Int32)) => True) (fun v => [(a 0, .inr (11, [.ref (a 1), .ref (a 2), .ref (a 3), .ref (a 4), .ref (a 5), .ref (a 6), .ref (a 7), .ref (a 8), .ref (a 9), .ref (a 10), .ref (a 11), .ref (a 12), .int ap])), (a 5, .inr (4, [.ref (a 18), .ref (a 19), .ref (a 20), .ref (a 21), .ref (a 22), .ref (a 23), .ref (a 24), .int (nI sn), .int (nI sk), .int scu, .int sch])), (a 10, .inr (10, [.ref (a 5), .ref (a 46)])), (a 46, .inl (cI, 48, .inl v))]) := by
  refine wri_of2 (by decide) (Nat.le_of_ble_eq_true rfl) ?_
  intro p e s m below meth c A ls H locs hC hK hP hD hA hS hl
  obtain ⟨hx, hb, hr, hml, hown, hts, hlocks, hin⟩ := hC
  have hown : s.vm.findClass RX11 = some m.cls := hown
  have hl : lv_has ls 4 [(0, .ref (a 0)), (1, .int n1), (2, .int n2), (3, .int n3)] := hl
  refine lv_iload_n hx hb dX11_thole_0 rfl (lv_at hl 1 rfl) ?_
  refine lv_iconst (v := 0) hx hb dX11_thole_1 (by decide) ?_
  refine lv_aload_n hx hb dX11_thole_2 rfl (lv_at hl 0 rfl) ?_
  refine va_get (D := D) (ci := 11) (v := .ref (a 5)) (C := RX11) (T := TX11) (N := 13) hx hb hts inT_X11 hown hK.1 hP 0 rfl rfl 4 (by decide) (hts _ k_487) (fun _ h9 => h9) rfl dX11_thole_3 ?_
  refine va_getN (D := D) (ci := 4) (v := .int (nI sn)) (C := RX4) (T := TX4) (N := 11) hx hb hts inT_X4 hown hK.1 hP 1 rfl rfl 7 (by decide) (va_Nw.use rfl (hK.2.2.1 _ n_254)) (fun _ h9 => h9) rfl dX11_thole_6 ?_
  refine lv_iconst (v := 1) hx hb dX11_thole_9 (by decide) ?_
  refine lv_isub hx hb dX11_thole_10 ?_
  refine eRi (va_runS (As := [.int n1, .int 0, .int (nI sn - 1)]) (rest := []) ⟨hx, hb, hml, hown, hts⟩ (c_X11_within l D cI cB cZ cJ tx n1 0 (nI sn - 1) H.size) (zS hts k_527 v_X11_within ⟨Nat.le_of_ble_eq_true rfl, Nat.le_of_ble_eq_true rfl⟩) (px0 hK) rfl rfl hl.1 rfl (lv_room (Nat.le_of_ble_eq_true rfl)) dX11_thole_11 ⟨Nat.le_of_ble_eq_true rfl, Nat.le_of_ble_eq_true rfl⟩) hP hS hA (fun r_1 H locs wr_1 hP hS => ?_)
  subst wr_1
  refine lv_bi_eq (tgt := 35) hx hb dX11_thole_14 (by decide) (fun c_2 => ?_) (fun c_2 => ?_)
  · refine lv_iconst (v := 0) hx hb dX11_thole_35 (by decide) ?_
    exact W.zret (v := 0) hx hb hr (by decide) (fun tt9 ht hW => ⟨⟨(0 : Int32), ((ot : Nat → Int32)), rfl, trivial, ⟨by rw [ht]; exact hP, hD⟩⟩, hS.F ht⟩) hS.2.2 dX11_thole_36 hlocks
  · obtain ⟨tn1, tn1a, tn1e⟩ := of_within (lf_X11_thole_3 a ap sn sk scu sch ot n1 n2 n3 hsn hsk c_2) c_2
    subst tn1e
    refine lv_iload_n hx hb dX11_thole_17 rfl (lv_at hl 2 rfl) ?_
    refine lv_iconst (v := 0) hx hb dX11_thole_18 (by decide) ?_
    refine lv_iconst (v := 1) hx hb dX11_thole_19 (by decide) ?_
    refine eRi (va_runS (As := [.int n2, .int 0, .int 1]) (rest := []) ⟨hx, hb, hml, hown, hts⟩ (c_X11_within l D cI cB cZ cJ tx n2 0 1 H.size) (zS hts k_527 v_X11_within ⟨Nat.le_of_ble_eq_true rfl, Nat.le_of_ble_eq_true rfl⟩) (px0 hK) rfl rfl hl.1 rfl (lv_room (Nat.le_of_ble_eq_true rfl)) dX11_thole_20 ⟨Nat.le_of_ble_eq_true rfl, Nat.le_of_ble_eq_true rfl⟩) hP hS hA (fun r_4 H locs wr_4 hP hS => ?_)
    subst wr_4
    refine lv_bi_eq (tgt := 35) hx hb dX11_thole_23 (by decide) (fun c_5 => ?_) (fun c_5 => ?_)
    · refine lv_iconst (v := 0) hx hb dX11_thole_35 (by decide) ?_
      exact W.zret (v := 0) hx hb hr (by decide) (fun tt9 ht hW => ⟨⟨(0 : Int32), ((ot : Nat → Int32)), rfl, trivial, ⟨by rw [ht]; exact hP, hD⟩⟩, hS.F ht⟩) hS.2.2 dX11_thole_36 hlocks
    · obtain ⟨tn2, tn2a, tn2b, tn2e⟩ := of_rng 0 1 rfl rfl c_5
      subst tn2e
      refine lv_iload_n hx hb dX11_thole_26 rfl (lv_at hl 3 rfl) ?_
      refine lv_iconst (v := (-1)) hx hb dX11_thole_27 (by decide) ?_
      refine lv_iconst (v := 1) hx hb dX11_thole_28 (by decide) ?_
      refine eRi (va_runS (As := [.int n3, .int (-1), .int 1]) (rest := []) ⟨hx, hb, hml, hown, hts⟩ (c_X11_within l D cI cB cZ cJ tx n3 (-1) 1 H.size) (zS hts k_527 v_X11_within ⟨Nat.le_of_ble_eq_true rfl, Nat.le_of_ble_eq_true rfl⟩) (px0 hK) rfl rfl hl.1 rfl (lv_room (Nat.le_of_ble_eq_true rfl)) dX11_thole_29 ⟨Nat.le_of_ble_eq_true rfl, Nat.le_of_ble_eq_true rfl⟩) hP hS hA (fun r_6 H locs wr_6 hP hS => ?_)
      subst wr_6
      refine lv_bi_ne (tgt := 37) hx hb dX11_thole_32 (by decide) (fun c_7 => ?_) (fun c_7 => ?_)
      · refine lv_aload_n hx hb dX11_thole_37 rfl (lv_at hl 0 rfl) ?_
        refine va_get (D := D) (ci := 11) (v := .ref (a 10)) (C := RX11) (T := TX11) (N := 13) hx hb hts inT_X11 hown hK.1 hP 0 rfl rfl 9 (by decide) (hts _ k_492) (fun _ h9 => h9) rfl dX11_thole_38 ?_
        refine lv_iload_n hx hb dX11_thole_41 rfl (lv_at hl 1 rfl) ?_
        refine lv_iload_n hx hb dX11_thole_42 rfl (lv_at hl 2 rfl) ?_
        refine lv_iload_n hx hb dX11_thole_43 rfl (lv_at hl 3 rfl) ?_
        refine eWv (wr := [(a 0, .inr (11, [.ref (a 1), .ref (a 2), .ref (a 3), .ref (a 4), .ref (a 5), .ref (a 6), .ref (a 7), .ref (a 8), .ref (a 9), .ref (a 10), .ref (a 11), .ref (a 12), .int ap])), (a 5, .inr (4, [.ref (a 18), .ref (a 19), .ref (a 20), .ref (a 21), .ref (a 22), .ref (a 23), .ref (a 24), .int (nI sn), .int (nI sk), .int scu, .int sch]))]) (va_runV (As := [.int (nI tn1), .int (nI tn2), .int n3]) (rest := []) ⟨hx, hb, hml, hown, hts⟩ (c_X10_tell l D cI cB cZ cJ tx a ot tn1 tn2 n3 (lf_X11_thole_8 a ap sn sk scu sch ot (nI tn1) (nI tn2) n3 hsn hsk c_2 tn1 tn1a rfl c_5 tn2 tn2a tn2b rfl c_7) (lf_X11_thole_9 a ap sn sk scu sch ot (nI tn1) (nI tn2) n3 hsn hsk c_2 tn1 tn1a rfl c_5 tn2 tn2a tn2b rfl c_7) H.size) (zV hts k_1113 v_X10_tell ⟨Nat.le_of_ble_eq_true rfl, Nat.le_of_ble_eq_true rfl⟩) (pV (pxS hK hP hD [2, 3] (by decide) rfl) hK hP 2 rfl rfl) rfl rfl hl.1 rfl (lv_room (Nat.le_of_ble_eq_true rfl)) dX11_thole_44 ⟨Nat.le_of_ble_eq_true rfl, Nat.le_of_ble_eq_true rfl⟩) hP hD hS hA [2, 3] [0, 1] rfl rfl (by decide) (by decide) (fun u_11 H locs wr_10 hP hD hS => ?_)
        obtain ⟨ot_11, rfl⟩ : ∃ z, z = u_11 := ⟨_, rfl⟩
        have hP : va_P D vwCl [(a 0, .inr (11, [.ref (a 1), .ref (a 2), .ref (a 3), .ref (a 4), .ref (a 5), .ref (a 6), .ref (a 7), .ref (a 8), .ref (a 9), .ref (a 10), .ref (a 11), .ref (a 12), .int ap])), (a 5, .inr (4, [.ref (a 18), .ref (a 19), .ref (a 20), .ref (a 21), .ref (a 22), .ref (a 23), .ref (a 24), .int (nI sn), .int (nI sk), .int scu, .int sch])), (a 10, .inr (10, [.ref (a 5), .ref (a 46)])), (a 46, .inl (cI, 48, .inl ot_11))] H := hP
        have hD : va_D A [(a 0, .inr (11, [.ref (a 1), .ref (a 2), .ref (a 3), .ref (a 4), .ref (a 5), .ref (a 6), .ref (a 7), .ref (a 8), .ref (a 9), .ref (a 10), .ref (a 11), .ref (a 12), .int ap])), (a 5, .inr (4, [.ref (a 18), .ref (a 19), .ref (a 20), .ref (a 21), .ref (a 22), .ref (a 23), .ref (a 24), .int (nI sn), .int (nI sk), .int scu, .int sch])), (a 10, .inr (10, [.ref (a 5), .ref (a 46)])), (a 46, .inl (cI, 48, .inl ot_11))] := hD
        refine lv_iconst (v := 1) hx hb dX11_thole_47 (by decide) ?_
        exact W.zret (v := 1) hx hb hr (by decide) (fun tt9 ht hW => ⟨⟨(1 : Int32), ((ot_11 : Nat → Int32)), rfl, trivial, ⟨by rw [ht]; exact hP, hD⟩⟩, hS.F ht⟩) hS.2.2 dX11_thole_48 hlocks
      · refine lv_iconst (v := 0) hx hb dX11_thole_35 (by decide) ?_
        exact W.zret (v := 0) hx hb hr (by decide) (fun tt9 ht hW => ⟨⟨(0 : Int32), ((ot : Nat → Int32)), rfl, trivial, ⟨by rw [ht]; exact hP, hD⟩⟩, hS.F ht⟩) hS.2.2 dX11_thole_36 hlocks
