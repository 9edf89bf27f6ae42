theorem lf_X0_hasMark_a_3 (a : Nat → Nat) (dm : Nat) (d2 : Nat → Int32) (x2 : Nat) (n1 : Int32) (hdm : dm ≤ 4) (hx2 : x2 < 384) (c_2 : ¬ ((0 : Int32) ≤ n1 ∧ n1 ≤ nI dm - 1)) : ((0 : Int32) = 0) ∨ (∃ f : Nat, f < dm ∧ n1 = nI f ∧ (0 : Int32) = 1) := by
  first | exact Or.inl rfl | exact Or.inr ⟨tn1, tn1a, tn1e, rfl⟩
theorem lf_X0_hasMark_a_4 (a : Nat → Nat) (dm : Nat) (d2 : Nat → Int32) (x2 : Nat) (n1 : Int32) (hdm : dm ≤ 4) (hx2 : x2 < 384) (c_2 : (0 : Int32) ≤ n1 ∧ n1 ≤ nI dm - 1) : dm < 2 ^ 31 := by
  omega
theorem lf_X0_hasMark_a_7 (a : Nat → Nat) (dm : Nat) (d2 : Nat → Int32) (x2 : Nat) (n1 : Int32) (hdm : dm ≤ 4) (hx2 : x2 < 384) (c_2 : (0 : Int32) ≤ n1 ∧ n1 ≤ nI dm - 1) (tn1 : Nat) (tn1a : tn1 < dm) (tn1e : n1 = nI tn1) (c_6 : ¬ ((0 : Int32) ≤ nI x2 ∧ nI x2 ≤ 383)) : ((0 : Int32) = 0) ∨ (∃ f : Nat, f < dm ∧ n1 = nI f ∧ (0 : Int32) = 1) := by
  first | exact Or.inl rfl | exact Or.inr ⟨tn1, tn1a, tn1e, rfl⟩
theorem lf_X0_hasMark_a_8 (a : Nat → Nat) (dm : Nat) (d2 : Nat → Int32) (x2 : Nat) (n1 : Int32) (hdm : dm ≤ 4) (hx2 : x2 < 384) (c_2 : (0 : Int32) ≤ n1 ∧ n1 ≤ nI dm - 1) (tn1 : Nat) (tn1a : tn1 < dm) (tn1e : n1 = nI tn1) (c_6 : (0 : Int32) ≤ nI x2 ∧ nI x2 ≤ 383) : vp_in (nI ((tn1 * 384) + x2)) 1536 := by
  first | exact vp_in_nI (by omega) (by decide) | (unfold vp_in; decide)
theorem lf_X0_hasMark_a_11 (a : Nat → Nat) (dm : Nat) (d2 : Nat → Int32) (x2 : Nat) (n1 : Int32) (hdm : dm ≤ 4) (hx2 : x2 < 384) (c_2 : (0 : Int32) ≤ n1 ∧ n1 ≤ nI dm - 1) (tn1 : Nat) (tn1a : tn1 < dm) (tn1e : n1 = nI tn1) (c_6 : (0 : Int32) ≤ nI x2 ∧ nI x2 ≤ 383) (x_9 : Int32) (c_10 : x_9 = 0) : ((0 : Int32) = 0) ∨ (∃ f : Nat, f < dm ∧ n1 = nI f ∧ (0 : Int32) = 1) := by
  first | exact Or.inl rfl | exact Or.inr ⟨tn1, tn1a, tn1e, rfl⟩
theorem lf_X0_hasMark_a_12 (a : Nat → Nat) (dm : Nat) (d2 : Nat → Int32) (x2 : Nat) (n1 : Int32) (hdm : dm ≤ 4) (hx2 : x2 < 384) (c_2 : (0 : Int32) ≤ n1 ∧ n1 ≤ nI dm - 1) (tn1 : Nat) (tn1a : tn1 < dm) (tn1e : n1 = nI tn1) (c_6 : (0 : Int32) ≤ nI x2 ∧ nI x2 ≤ 383) (x_9 : Int32) (c_10 : ¬ x_9 = 0) : ((1 : Int32) = 0) ∨ (∃ f : Nat, f < dm ∧ n1 = nI f ∧ (1 : Int32) = 1) := by
  first | exact Or.inl rfl | exact Or.inr ⟨tn1, tn1a, tn1e, rfl⟩
set_option maxHeartbeats 4000000 in
set_option maxRecDepth 100000 in
theorem c_X0_hasMark_a (l : Launch) (D : va_G) (cI cB cZ cJ : ClassId) (tx : List (ClassId × FieldType)) (a : Nat → Nat) (dm : Nat) (d2 : Nat → Int32) (x2 : Nat) (n1 : Int32) (hdm : dm ≤ 4) (hx2 : x2 < 384) : RdI l D cI cB cZ cJ tx yX0_hasMark cX0_hasMark 3 (some .boolean) 2 [.ref (a 6), .int n1, .int (nI x2)] [(a 6, .inr (0, [.ref (a 5), .ref (a 25), .ref (a 26), .ref (a 27), .ref (a 28), .ref (a 29), .int (nI dm)])), (a 27, .inl (cZ, 1536, .inl d2))] (fun r => (r = 0) ∨ (∃ f : Nat, f < dm ∧ n1 = nI f ∧ r = 1)) := by
  refine rdi_of2 (by decide) (Nat.le_of_ble_eq_true rfl) ?_
  intro p e s m below meth c A ls H locs hC hK hP hD hA hS hl
  obtain ⟨hx, hb, hr, hml, hown, hts, hlocks, hin⟩ := hC
  have hown : s.vm.findClass RX0 = some m.cls := hown
  have hl : lv_has ls 3 [(0, .ref (a 6)), (1, .int n1), (2, .int (nI x2))] := hl
  refine lv_aload_n hx hb dX0_hasMark_0 rfl (lv_at hl 0 rfl) ?_
  refine lv_iload_n hx hb dX0_hasMark_1 rfl (lv_at hl 1 rfl) ?_
  refine eRi (va_runV (As := [.int n1]) (rest := []) ⟨hx, hb, hml, hown, hts⟩ (c_X0_has l D cI cB cZ cJ tx a dm n1 H.size) (zV hts k_928 v_X0_has ⟨Nat.le_of_ble_eq_true rfl, Nat.le_of_ble_eq_true rfl⟩) (pV (px1 hK hP 0 rfl) hK hP 0 rfl rfl) rfl rfl hl.1 rfl (lv_room (Nat.le_of_ble_eq_true rfl)) dX0_hasMark_2 ⟨Nat.le_of_ble_eq_true rfl, Nat.le_of_ble_eq_true rfl⟩) hP hS hA (fun r_1 H locs wr_1 hP hS => ?_)
  subst wr_1
  refine lv_bi_eq (tgt := 38) hx hb dX0_hasMark_5 (by decide) (fun c_2 => ?_) (fun c_2 => ?_)
  · refine lv_iconst (v := 0) hx hb dX0_hasMark_38 (by decide) ?_
    exact W.zret (v := 0) hx hb hr (by decide) (fun tt9 ht hW => ⟨⟨(0 : Int32), (), rfl, (lf_X0_hasMark_a_3 a dm d2 x2 n1 hdm hx2 c_2), trivial⟩, hS.F ht⟩) hS.2.2 dX0_hasMark_39 hlocks
  · obtain ⟨tn1, tn1a, tn1e⟩ := of_within (lf_X0_hasMark_a_4 a dm d2 x2 n1 hdm hx2 c_2) c_2
    subst tn1e
    refine lv_iload_n hx hb dX0_hasMark_8 rfl (lv_at hl 2 rfl) ?_
    refine lv_iconst (v := 0) hx hb dX0_hasMark_9 (by decide) ?_
    refine lv_sipush (v := 383) hx hb dX0_hasMark_10 (by decide) ?_
    refine eRi (va_runSN (As := [.int (nI x2), .int 0, .int 383]) (rest := []) ⟨hx, hb, hml, hown, hts⟩ (c_X11_within l D cI cB cZ cJ tx (nI x2) 0 383 H.size) (zSN hts hK n_903 v_X11_within ⟨Nat.le_of_ble_eq_true rfl, Nat.le_of_ble_eq_true rfl⟩) (px0 hK) rfl rfl hl.1 rfl (lv_room (Nat.le_of_ble_eq_true rfl)) dX0_hasMark_13 ⟨Nat.le_of_ble_eq_true rfl, Nat.le_of_ble_eq_true rfl⟩) hP hS hA (fun r_5 H locs wr_5 hP hS => ?_)
    subst wr_5
    refine lv_bi_eq (tgt := 38) hx hb dX0_hasMark_16 (by decide) (fun c_6 => ?_) (fun c_6 => ?_)
    · refine lv_iconst (v := 0) hx hb dX0_hasMark_38 (by decide) ?_
      exact W.zret (v := 0) hx hb hr (by decide) (fun tt9 ht hW => ⟨⟨(0 : Int32), (), rfl, (lf_X0_hasMark_a_7 a dm d2 x2 (nI tn1) hdm hx2 c_2 tn1 tn1a rfl c_6), trivial⟩, hS.F ht⟩) hS.2.2 dX0_hasMark_39 hlocks
    · refine lv_aload_n hx hb dX0_hasMark_19 rfl (lv_at hl 0 rfl) ?_
      refine va_get (D := D) (ci := 0) (v := .ref (a 27)) (C := RX0) (T := TX0) (N := 7) hx hb hts inT_X0 hown hK.1 hP 0 rfl rfl 3 (by decide) (hts _ k_297) (fun _ h9 => h9) rfl dX0_hasMark_20 ?_
      refine lv_iload_n hx hb dX0_hasMark_23 rfl (lv_at hl 1 rfl) ?_
      refine lv_sipush (v := 384) hx hb dX0_hasMark_24 (by decide) ?_
      refine lv_imul hx hb dX0_hasMark_27 ?_
      refine lv_topv (y := nI (tn1 * 384)) (pk_mul tn1 384) ?_
      refine lv_iload_n hx hb dX0_hasMark_28 rfl (lv_at hl 2 rfl) ?_
      refine lv_iadd hx hb dX0_hasMark_29 ?_
      refine lv_topv (y := nI ((tn1 * 384) + x2)) (nI_add (tn1 * 384) x2) ?_
      refine ld_z hx hb hK hP 1 rfl (lf_X0_hasMark_a_8 a dm d2 x2 (nI tn1) hdm hx2 c_2 tn1 tn1a rfl c_6) dX0_hasMark_30 (fun x_9 => ?_)
      refine lv_if_eq (tgt := 38) hx hb dX0_hasMark_31 (by decide) (fun c_10 => ?_) (fun c_10 => ?_)
      · refine lv_iconst (v := 0) hx hb dX0_hasMark_38 (by decide) ?_
        exact W.zret (v := 0) hx hb hr (by decide) (fun tt9 ht hW => ⟨⟨(0 : Int32), (), rfl, (lf_X0_hasMark_a_11 a dm d2 x2 (nI tn1) hdm hx2 c_2 tn1 tn1a rfl c_6 x_9 c_10), trivial⟩, hS.F ht⟩) hS.2.2 dX0_hasMark_39 hlocks
      · refine lv_iconst (v := 1) hx hb dX0_hasMark_34 (by decide) ?_
        refine lv_goto (tgt := 39) hx hb dX0_hasMark_35 (by decide) ?_
        exact W.zret (v := 1) hx hb hr (by decide) (fun tt9 ht hW => ⟨⟨(1 : Int32), (), rfl, (lf_X0_hasMark_a_12 a dm d2 x2 (nI tn1) hdm hx2 c_2 tn1 tn1a rfl c_6 x_9 c_10), trivial⟩, hS.F ht⟩) hS.2.2 dX0_hasMark_39 hlocks

theorem lf_X11_body_7 (a : Nat → Nat) (ap : Int32) (bc : Int32) (br : Int32) (bm : Int32) (ba : Int32) (bp : Int32) (pc_ : Nat → Int32) (n1 : Int32) (n2 : Int32) (n3 : Int32) (c_2 : (1 : Int32) ≤ n1 ∧ n1 ≤ 12) (tn1 : Nat) (tn1a : 1 ≤ tn1) (tn1b : tn1 ≤ 12) (tn1e : n1 = nI tn1) (c_4 : (1 : Int32) ≤ n2 ∧ n2 ≤ 6) (tn2 : Nat) (tn2a : 1 ≤ tn2) (tn2b : tn2 ≤ 6) (tn2e : n2 = nI tn2) (c_6 : (0 : Int32) ≤ n3 ∧ n3 ≤ 4) (tn3 : Nat) (tn3a : 0 ≤ tn3) (tn3b : tn3 ≤ 4) (tn3e : n3 = nI tn3) : 1 ≤ tn1 := by
  first | assumption | omega | decide
theorem lf_X11_body_8 (a : Nat → Nat) (ap : Int32) (bc : Int32) (br : Int32) (bm : Int32) (ba : Int32) (bp : Int32) (pc_ : Nat → Int32) (n1 : Int32) (n2 : Int32) (n3 : Int32) (c_2 : (1 : Int32) ≤ n1 ∧ n1 ≤ 12) (tn1 : Nat) (tn1a : 1 ≤ tn1) (tn1b : tn1 ≤ 12) (tn1e : n1 = nI tn1) (c_4 : (1 : Int32) ≤ n2 ∧ n2 ≤ 6) (tn2 : Nat) (tn2a : 1 ≤ tn2) (tn2b : tn2 ≤ 6) (tn2e : n2 = nI tn2) (c_6 : (0 : Int32) ≤ n3 ∧ n3 ≤ 4) (tn3 : Nat) (tn3a : 0 ≤ tn3) (tn3b : tn3 ≤ 4) (tn3e : n3 = nI tn3) : tn1 ≤ 12 := by
  first | assumption | omega | decide
theorem lf_X11_body_9 (a : Nat → Nat) (ap : Int32) (bc : Int32) (br : Int32) (bm : Int32) (ba : Int32) (bp : Int32) (pc_ : Nat → Int32) (n1 : Int32) (n2 : Int32) (n3 : Int32) (c_2 : (1 : Int32) ≤ n1 ∧ n1 ≤ 12) (tn1 : Nat) (tn1a : 1 ≤ tn1) (tn1b : tn1 ≤ 12) (tn1e : n1 = nI tn1) (c_4 : (1 : Int32) ≤ n2 ∧ n2 ≤ 6) (tn2 : Nat) (tn2a : 1 ≤ tn2) (tn2b : tn2 ≤ 6) (tn2e : n2 = nI tn2) (c_6 : (0 : Int32) ≤ n3 ∧ n3 ≤ 4) (tn3 : Nat) (tn3a : 0 ≤ tn3) (tn3b : tn3 ≤ 4) (tn3e : n3 = nI tn3) : 1 ≤ tn2 := by
  first | assumption | omega | decide
theorem lf_X11_body_10 (a : Nat → Nat) (ap : Int32) (bc : Int32) (br : Int32) (bm : Int32) (ba : Int32) (bp : Int32) (pc_ : Nat → Int32) (n1 : Int32) (n2 : Int32) (n3 : Int32) (c_2 : (1 : Int32) ≤ n1 ∧ n1 ≤ 12) (tn1 : Nat) (tn1a : 1 ≤ tn1) (tn1b : tn1 ≤ 12) (tn1e : n1 = nI tn1) (c_4 : (1 : Int32) ≤ n2 ∧ n2 ≤ 6) (tn2 : Nat) (tn2a : 1 ≤ tn2) (tn2b : tn2 ≤ 6) (tn2e : n2 = nI tn2) (c_6 : (0 : Int32) ≤ n3 ∧ n3 ≤ 4) (tn3 : Nat) (tn3a : 0 ≤ tn3) (tn3b : tn3 ≤ 4) (tn3e : n3 = nI tn3) : tn2 ≤ 6 := by
  first | assumption | omega | decide
theorem lf_X11_body_17 (a : Nat → Nat) (ap : Int32) (bc : Int32) (br : Int32) (bm : Int32) (ba : Int32) (bp : Int32) (pc_ : Nat → Int32) (n1 : Int32) (n2 : Int32) (n3 : Int32) (c_2 : (1 : Int32) ≤ n1 ∧ n1 ≤ 12) (tn1 : Nat) (tn1a : 1 ≤ tn1) (tn1b : tn1 ≤ 12) (tn1e : n1 = nI tn1) (c_4 : (1 : Int32) ≤ n2 ∧ n2 ≤ 6) (tn2 : Nat) (tn2a : 1 ≤ tn2) (tn2b : tn2 ≤ 6) (tn2e : n2 = nI tn2) (c_6 : (0 : Int32) ≤ n3 ∧ n3 ≤ 4) (tn3 : Nat) (tn3a : 0 ≤ tn3) (tn3b : tn3 ≤ 4) (tn3e : n3 = nI tn3) (bc_12 : Int32) (br_12 : Int32) (bm_12 : Int32) (ba_12 : Int32) (bp_12 : Int32) (c_13 : ¬ tn3 = 0) (c_14 : ¬ tn3 = 1) (c_15 : ¬ tn3 = 2) (c_16 : ¬ tn3 = 3) : (nI tn3).toInt < 0 ∨ 3 < (nI tn3).toInt := by
  right
  rw [nI_toInt (by omega)]
  omega
set_option maxHeartbeats 4000000 in
set_option maxRecDepth 100000 in
theorem c_X11_body (l : Launch) (D : va_G) (cI cB cZ cJ : ClassId) (tx : List (ClassId × FieldType)) (a : Nat → Nat) (ap : Int32) (bc : Int32) (br : Int32) (bm : Int32) (ba : Int32) (bp : Int32) (pc_ : Nat → Int32) (n1 : Int32) (n2 : Int32) (n3 : Int32) : WrI l D cI cB cZ cJ tx yX11_body cX11_body 4 (some .int) 2 0 0 [.ref (a 0), .int n1, .int n2, .int n3] [(a 0, .inr (11, [.ref (a 1), .ref (a 2), .ref (a 3), .ref (a 4), .ref (a 5), .ref (a 6), .ref (a 7), .ref (a 8), .ref (a 9), .ref (a 10), .ref (a 11), .ref (a 12), .int ap])), (a 11, .inr (6, [.ref (a 47), .int bc, .int br, .int bm, .int ba, .int bp])), (a 47, .inl (cI, 72, .inl pc_))] (fun (r : Int32) (v : (Int32) × (Int32) × (Int32) × (Int32) × (Int32)) => True) (fun v => [(a 0, .inr (11, [.ref (a 1), .ref (a 2), .ref (a 3), .ref (a 4), .ref (a 5), .ref (a 6), .ref (a 7), .ref (a 8), .ref (a 9), .ref (a 10), .ref (a 11), .ref (a 12), .int ap])), (a 11, .inr (6, [.ref (a 47), .int v.1, .int v.2.1, .int v.2.2.1, .int v.2.2.2.1, .int v.2.2.2.2])), (a 47, .inl (cI, 72, .inl pc_))]) := by
  refine wri_of2 (by decide) (Nat.le_of_ble_eq_true rfl) ?_
  intro p e s m below meth c A ls H locs hC hK hP hD hA hS hl
  obtain ⟨hx, hb, hr, hml, hown, hts, hlocks, hin⟩ := hC
  have hown : s.vm.findClass RX11 = some m.cls := hown
  have hl : lv_has ls 4 [(0, .ref (a 0)), (1, .int n1), (2, .int n2), (3, .int n3)] := hl
  refine lv_iload_n hx hb dX11_body_0 rfl (lv_at hl 1 rfl) ?_
  refine lv_iconst (v := 1) hx hb dX11_body_1 (by decide) ?_
  refine lv_bipush (v := 12) hx hb dX11_body_2 (by decide) ?_
  refine eRi (va_runS (As := [.int n1, .int 1, .int 12]) (rest := []) ⟨hx, hb, hml, hown, hts⟩ (c_X11_within l D cI cB cZ cJ tx n1 1 12 H.size) (zS hts k_527 v_X11_within ⟨Nat.le_of_ble_eq_true rfl, Nat.le_of_ble_eq_true rfl⟩) (px0 hK) rfl rfl hl.1 rfl (lv_room (Nat.le_of_ble_eq_true rfl)) dX11_body_4 ⟨Nat.le_of_ble_eq_true rfl, Nat.le_of_ble_eq_true rfl⟩) hP hS hA (fun r_1 H locs wr_1 hP hS => ?_)
  subst wr_1
  refine lv_bi_eq (tgt := 29) hx hb dX11_body_7 (by decide) (fun c_2 => ?_) (fun c_2 => ?_)
  · refine lv_iconst (v := (-1)) hx hb dX11_body_29 (by decide) ?_
    exact W.iret (v := (-1)) hx hb hr (fun tt9 ht hW => ⟨⟨((-1) : Int32), ((bc : Int32), (br : Int32), (bm : Int32), (ba : Int32), (bp : Int32)), rfl, trivial, ⟨by rw [ht]; exact hP, hD⟩⟩, hS.F ht⟩) hS.2.2 dX11_body_30 hlocks
  · obtain ⟨tn1, tn1a, tn1b, tn1e⟩ := of_rng 1 12 rfl rfl c_2
    subst tn1e
    refine lv_iload_n hx hb dX11_body_10 rfl (lv_at hl 2 rfl) ?_
    refine lv_iconst (v := 1) hx hb dX11_body_11 (by decide) ?_
    refine lv_bipush (v := 6) hx hb dX11_body_12 (by decide) ?_
    refine eRi (va_runS (As := [.int n2, .int 1, .int 6]) (rest := []) ⟨hx, hb, hml, hown, hts⟩ (c_X11_within l D cI cB cZ cJ tx n2 1 6 H.size) (zS hts k_527 v_X11_within ⟨Nat.le_of_ble_eq_true rfl, Nat.le_of_ble_eq_true rfl⟩) (px0 hK) rfl rfl hl.1 rfl (lv_room (Nat.le_of_ble_eq_true rfl)) dX11_body_14 ⟨Nat.le_of_ble_eq_true rfl, Nat.le_of_ble_eq_true rfl⟩) hP hS hA (fun r_3 H locs wr_3 hP hS => ?_)
    subst wr_3
    refine lv_bi_eq (tgt := 29) hx hb dX11_body_17 (by decide) (fun c_4 => ?_) (fun c_4 => ?_)
    · refine lv_iconst (v := (-1)) hx hb dX11_body_29 (by decide) ?_
      exact W.iret (v := (-1)) hx hb hr (fun tt9 ht hW => ⟨⟨((-1) : Int32), ((bc : Int32), (br : Int32), (bm : Int32), (ba : Int32), (bp : Int32)), rfl, trivial, ⟨by rw [ht]; exact hP, hD⟩⟩, hS.F ht⟩) hS.2.2 dX11_body_30 hlocks
    · obtain ⟨tn2, tn2a, tn2b, tn2e⟩ := of_rng 1 6 rfl rfl c_4
      subst tn2e
      refine lv_iload_n hx hb dX11_body_20 rfl (lv_at hl 3 rfl) ?_
      refine lv_iconst (v := 0) hx hb dX11_body_21 (by decide) ?_
      refine lv_iconst (v := 4) hx hb dX11_body_22 (by decide) ?_
      refine eRi (va_runS (As := [.int n3, .int 0, .int 4]) (rest := []) ⟨hx, hb, hml, hown, hts⟩ (c_X11_within l D cI cB cZ cJ tx n3 0 4 H.size) (zS hts k_527 v_X11_within ⟨Nat.le_of_ble_eq_true rfl, Nat.le_of_ble_eq_true rfl⟩) (px0 hK) rfl rfl hl.1 rfl (lv_room (Nat.le_of_ble_eq_true rfl)) dX11_body_23 ⟨Nat.le_of_ble_eq_true rfl, Nat.le_of_ble_eq_true rfl⟩) hP hS hA (fun r_5 H locs wr_5 hP hS => ?_)
      subst wr_5
      refine lv_bi_ne (tgt := 31) hx hb dX11_body_26 (by decide) (fun c_6 => ?_) (fun c_6 => ?_)
      · obtain ⟨tn3, tn3a, tn3b, tn3e⟩ := of_rng 0 4 rfl rfl c_6
        subst tn3e
        refine lv_aload_n hx hb dX11_body_31 rfl (lv_at hl 0 rfl) ?_
        refine va_get (D := D) (ci := 11) (v := .ref (a 11)) (C := RX11) (T := TX11) (N := 13) hx hb hts inT_X11 hown hK.1 hP 0 rfl rfl 10 (by decide) (hts _ k_493) (fun _ h9 => h9) rfl dX11_body_32 ?_
        refine lv_iload_n hx hb dX11_body_35 rfl (lv_at hl 1 rfl) ?_
        refine lv_iload_n hx hb dX11_body_36 rfl (lv_at hl 2 rfl) ?_
        refine eWv (wr := [(a 0, .inr (11, [.ref (a 1), .ref (a 2), .ref (a 3), .ref (a 4), .ref (a 5), .ref (a 6), .ref (a 7), .ref (a 8), .ref (a 9), .ref (a 10), .ref (a 11), .ref (a 12), .int ap]))]) (va_runV (As := [.int (nI tn1), .int (nI tn2)]) (rest := []) ⟨hx, hb, hml, hown, hts⟩ (c_X6_seek l D cI cB cZ cJ tx a bc br bm ba bp pc_ tn1 tn2 (lf_X11_body_7 a ap bc br bm ba bp pc_ (nI tn1) (nI tn2) (nI tn3) c_2 tn1 tn1a tn1b rfl c_4 tn2 tn2a tn2b rfl c_6 tn3 tn3a tn3b rfl) (lf_X11_body_8 a ap bc br bm ba bp pc_ (nI tn1) (nI tn2) (nI tn3) c_2 tn1 tn1a tn1b rfl c_4 tn2 tn2a tn2b rfl c_6 tn3 tn3a tn3b rfl) (lf_X11_body_9 a ap bc br bm ba bp pc_ (nI tn1) (nI tn2) (nI tn3) c_2 tn1 tn1a tn1b rfl c_4 tn2 tn2a tn2b rfl c_6 tn3 tn3a tn3b rfl) (lf_X11_body_10 a ap bc br bm ba bp pc_ (nI tn1) (nI tn2) (nI tn3) c_2 tn1 tn1a tn1b rfl c_4 tn2 tn2a tn2b rfl c_6 tn3 tn3a tn3b rfl) H.size) (zV hts k_1177 v_X6_seek ⟨Nat.le_of_ble_eq_true rfl, Nat.le_of_ble_eq_true rfl⟩) (pV (pxS hK hP hD [1, 2] (by decide) rfl) hK hP 1 rfl rfl) rfl rfl hl.1 rfl (lv_room (Nat.le_of_ble_eq_true rfl)) dX11_body_37 ⟨Nat.le_of_ble_eq_true rfl, Nat.le_of_ble_eq_true rfl⟩) hP hD hS hA [1, 2] [0] rfl rfl (by decide) (by decide) (fun u_12 H locs wr_11 hP hD hS => ?_)
        obtain ⟨bc_12, br_12, bm_12, ba_12, bp_12⟩ := u_12
        have hP : va_P D vwCl [(a 0, .inr (11, [.ref (a 1), .ref (a 2), .ref (a 3), .ref (a 4), .ref (a 5), .ref (a 6), .ref (a 7), .ref (a 8), .ref (a 9), .ref (a 10), .ref (a 11), .ref (a 12), .int ap])), (a 11, .inr (6, [.ref (a 47), .int bc_12, .int br_12, .int bm_12, .int ba_12, .int bp_12])), (a 47, .inl (cI, 72, .inl pc_))] H := hP
        have hD : va_D A [(a 0, .inr (11, [.ref (a 1), .ref (a 2), .ref (a 3), .ref (a 4), .ref (a 5), .ref (a 6), .ref (a 7), .ref (a 8), .ref (a 9), .ref (a 10), .ref (a 11), .ref (a 12), .int ap])), (a 11, .inr (6, [.ref (a 47), .int bc_12, .int br_12, .int bm_12, .int ba_12, .int bp_12])), (a 47, .inl (cI, 72, .inl pc_))] := hD
        refine lv_iload_n hx hb dX11_body_40 rfl (lv_at hl 3 rfl) ?_
        by_cases c_13 : tn3 = 0
        · subst c_13
          refine lv_tableIn (off := 31) (tgt := 72) hx hb dX11_body_41 (by decide) (by decide) rfl (by decide) ?_
          refine lv_aload_n hx hb dX11_body_72 rfl (lv_at hl 0 rfl) ?_
          refine va_get (D := D) (ci := 11) (v := .ref (a 11)) (C := RX11) (T := TX11) (N := 13) hx hb hts inT_X11 hown hK.1 hP 0 rfl rfl 10 (by decide) (hts _ k_493) (fun _ h9 => h9) rfl dX11_body_73 ?_
          refine va_getN (D := D) (ci := 6) (v := .int bc_12) (C := RX6) (T := TX6) (N := 6) hx hb hts inT_X6 hown hK.1 hP 1 rfl rfl 1 (by decide) (va_Nw.use rfl (hK.2.2.1 _ n_443)) (fun _ h9 => h9) rfl dX11_body_76 ?_
          exact W.iret (v := bc_12) hx hb hr (fun tt9 ht hW => ⟨⟨(bc_12 : Int32), ((bc_12 : Int32), (br_12 : Int32), (bm_12 : Int32), (ba_12 : Int32), (bp_12 : Int32)), rfl, trivial, ⟨by rw [ht]; exact hP, hD⟩⟩, hS.F ht⟩) hS.2.2 dX11_body_79 hlocks
        by_cases c_14 : tn3 = 1
        · subst c_14
          refine lv_tableIn (off := 39) (tgt := 80) hx hb dX11_body_41 (by decide) (by decide) rfl (by decide) ?_
          refine lv_aload_n hx hb dX11_body_80 rfl (lv_at hl 0 rfl) ?_
          refine va_get (D := D) (ci := 11) (v := .ref (a 11)) (C := RX11) (T := TX11) (N := 13) hx hb hts inT_X11 hown hK.1 hP 0 rfl rfl 10 (by decide) (hts _ k_493) (fun _ h9 => h9) rfl dX11_body_81 ?_
          refine va_getN (D := D) (ci := 6) (v := .int br_12) (C := RX6) (T := TX6) (N := 6) hx hb hts inT_X6 hown hK.1 hP 1 rfl rfl 2 (by decide) (va_Nw.use rfl (hK.2.2.1 _ n_445)) (fun _ h9 => h9) rfl dX11_body_84 ?_
          exact W.iret (v := br_12) hx hb hr (fun tt9 ht hW => ⟨⟨(br_12 : Int32), ((bc_12 : Int32), (br_12 : Int32), (bm_12 : Int32), (ba_12 : Int32), (bp_12 : Int32)), rfl, trivial, ⟨by rw [ht]; exact hP, hD⟩⟩, hS.F ht⟩) hS.2.2 dX11_body_87 hlocks
        by_cases c_15 : tn3 = 2
        · subst c_15
          refine lv_tableIn (off := 47) (tgt := 88) hx hb dX11_body_41 (by decide) (by decide) rfl (by decide) ?_
          refine lv_aload_n hx hb dX11_body_88 rfl (lv_at hl 0 rfl) ?_
          refine va_get (D := D) (ci := 11) (v := .ref (a 11)) (C := RX11) (T := TX11) (N := 13) hx hb hts inT_X11 hown hK.1 hP 0 rfl rfl 10 (by decide) (hts _ k_493) (fun _ h9 => h9) rfl dX11_body_89 ?_
          refine va_getN (D := D) (ci := 6) (v := .int bm_12) (C := RX6) (T := TX6) (N := 6) hx hb hts inT_X6 hown hK.1 hP 1 rfl rfl 3 (by decide) (va_Nw.use rfl (hK.2.2.1 _ n_447)) (fun _ h9 => h9) rfl dX11_body_92 ?_
          exact W.iret (v := bm_12) hx hb hr (fun tt9 ht hW => ⟨⟨(bm_12 : Int32), ((bc_12 : Int32), (br_12 : Int32), (bm_12 : Int32), (ba_12 : Int32), (bp_12 : Int32)), rfl, trivial, ⟨by rw [ht]; exact hP, hD⟩⟩, hS.F ht⟩) hS.2.2 dX11_body_95 hlocks
        by_cases c_16 : tn3 = 3
        · subst c_16
          refine lv_tableIn (off := 55) (tgt := 96) hx hb dX11_body_41 (by decide) (by decide) rfl (by decide) ?_
          refine lv_aload_n hx hb dX11_body_96 rfl (lv_at hl 0 rfl) ?_
          refine va_get (D := D) (ci := 11) (v := .ref (a 11)) (C := RX11) (T := TX11) (N := 13) hx hb hts inT_X11 hown hK.1 hP 0 rfl rfl 10 (by decide) (hts _ k_493) (fun _ h9 => h9) rfl dX11_body_97 ?_
          refine va_getN (D := D) (ci := 6) (v := .int ba_12) (C := RX6) (T := TX6) (N := 6) hx hb hts inT_X6 hown hK.1 hP 1 rfl rfl 4 (by decide) (va_Nw.use rfl (hK.2.2.1 _ n_449)) (fun _ h9 => h9) rfl dX11_body_100 ?_
          exact W.iret (v := ba_12) hx hb hr (fun tt9 ht hW => ⟨⟨(ba_12 : Int32), ((bc_12 : Int32), (br_12 : Int32), (bm_12 : Int32), (ba_12 : Int32), (bp_12 : Int32)), rfl, trivial, ⟨by rw [ht]; exact hP, hD⟩⟩, hS.F ht⟩) hS.2.2 dX11_body_103 hlocks
        refine lv_tableOut (tgt := 104) hx hb dX11_body_41 (lf_X11_body_17 a ap bc br bm ba bp pc_ (nI tn1) (nI tn2) (nI tn3) c_2 tn1 tn1a tn1b rfl c_4 tn2 tn2a tn2b rfl c_6 tn3 tn3a tn3b rfl bc_12 br_12 bm_12 ba_12 bp_12 c_13 c_14 c_15 c_16) (by decide) ?_
        refine lv_aload_n hx hb dX11_body_104 rfl (lv_at hl 0 rfl) ?_
        refine va_get (D := D) (ci := 11) (v := .ref (a 11)) (C := RX11) (T := TX11) (N := 13) hx hb hts inT_X11 hown hK.1 hP 0 rfl rfl 10 (by decide) (hts _ k_493) (fun _ h9 => h9) rfl dX11_body_105 ?_
        refine va_getN (D := D) (ci := 6) (v := .int bp_12) (C := RX6) (T := TX6) (N := 6) hx hb hts inT_X6 hown hK.1 hP 1 rfl rfl 5 (by decide) (va_Nw.use rfl (hK.2.2.1 _ n_451)) (fun _ h9 => h9) rfl dX11_body_108 ?_
        exact W.iret (v := bp_12) hx hb hr (fun tt9 ht hW => ⟨⟨(bp_12 : Int32), ((bc_12 : Int32), (br_12 : Int32), (bm_12 : Int32), (ba_12 : Int32), (bp_12 : Int32)), rfl, trivial, ⟨by rw [ht]; exact hP, hD⟩⟩, hS.F ht⟩) hS.2.2 dX11_body_111 hlocks
      · refine lv_iconst (v := (-1)) hx hb dX11_body_29 (by decide) ?_
        exact W.iret (v := (-1)) hx hb hr (fun tt9 ht hW => ⟨⟨((-1) : Int32), ((bc : Int32), (br : Int32), (bm : Int32), (ba : Int32), (bp : Int32)), rfl, trivial, ⟨by rw [ht]; exact hP, hD⟩⟩, hS.F ht⟩) hS.2.2 dX11_body_30 hlocks

theorem lf_X11_marked_1 (a : Nat → Nat) (ap : Int32) (sn : Nat) (sk : Nat) (scu : Int32) (sch : Int32) (dm : Nat) (d0 : Nat → Int32) (d1 : Nat → Int32) (d2 : Nat → Int32) (n1 : Int32) (n2 : Int32) (n3 : Int32) (n4 : Int32) (n5 : Int32) (hsn : sn ≤ 24) (hsk : sk ≤ 8) (hdm : dm ≤ 4) : sn ≤ 24 := by
  first | assumption | omega | decide
theorem lf_X11_marked_2 (a : Nat → Nat) (ap : Int32) (sn : Nat) (sk : Nat) (scu : Int32) (sch : Int32) (dm : Nat) (d0 : Nat → Int32) (d1 : Nat → Int32) (d2 : Nat → Int32) (n1 : Int32) (n2 : Int32) (n3 : Int32) (n4 : Int32) (n5 : Int32) (hsn : sn ≤ 24) (hsk : sk ≤ 8) (hdm : dm ≤ 4) : sk ≤ 8 := by
  first | assumption | omega | decide
theorem lf_X11_marked_4 (a : Nat → Nat) (ap : Int32) (sn : Nat) (sk : Nat) (scu : Int32) (sch : Int32) (dm : Nat) (d0 : Nat → Int32) (d1 : Nat → Int32) (d2 : Nat → Int32) (n1 : Int32) (n2 : Int32) (n3 : Int32) (n4 : Int32) (n5 : Int32) (hsn : sn ≤ 24) (hsk : sk ≤ 8) (hdm : dm ≤ 4) (ff3 : Nat) (ss3 : Nat) (dd3 : Nat) (hff3 : ff3 < sn) (hss3 : ss3 < sk) (hdd3 : dd3 < 2) : ¬ nI ((ff3 * 8 + ss3) * 2 + dd3) < 0 := by
  first | exact nI_pos (by omega) | exact nI_pos' (by omega)
theorem lf_X11_marked_7 (a : Nat → Nat) (ap : Int32) (sn : Nat) (sk : Nat) (scu : Int32) (sch : Int32) (dm : Nat) (d0 : Nat → Int32) (d1 : Nat → Int32) (d2 : Nat → Int32) (n1 : Int32) (n2 : Int32) (n3 : Int32) (n4 : Int32) (n5 : Int32) (hsn : sn ≤ 24) (hsk : sk ≤ 8) (hdm : dm ≤ 4) (ff3 : Nat) (ss3 : Nat) (dd3 : Nat) (hff3 : ff3 < sn) (hss3 : ss3 < sk) (hdd3 : dd3 < 2) (c_6 : (0 : Int32) ≤ n5 ∧ n5 ≤ 1) (tn5 : Nat) (tn5a : 0 ≤ tn5) (tn5b : tn5 ≤ 1) (tn5e : n5 = nI tn5) : dm ≤ 4 := by
  first | assumption | omega | decide
theorem lf_X11_marked_8 (a : Nat → Nat) (ap : Int32) (sn : Nat) (sk : Nat) (scu : Int32) (sch : Int32) (dm : Nat) (d0 : Nat → Int32) (d1 : Nat → Int32) (d2 : Nat → Int32) (n1 : Int32) (n2 : Int32) (n3 : Int32) (n4 : Int32) (n5 : Int32) (hsn : sn ≤ 24) (hsk : sk ≤ 8) (hdm : dm ≤ 4) (ff3 : Nat) (ss3 : Nat) (dd3 : Nat) (hff3 : ff3 < sn) (hss3 : ss3 < sk) (hdd3 : dd3 < 2) (c_6 : (0 : Int32) ≤ n5 ∧ n5 ≤ 1) (tn5 : Nat) (tn5a : 0 ≤ tn5) (tn5b : tn5 ≤ 1) (tn5e : n5 = nI tn5) : ((ff3 * 8 + ss3) * 2 + dd3) < 384 := by
  first | assumption | omega | decide
theorem lf_X11_marked_10 (a : Nat → Nat) (ap : Int32) (sn : Nat) (sk : Nat) (scu : Int32) (sch : Int32) (dm : Nat) (d0 : Nat → Int32) (d1 : Nat → Int32) (d2 : Nat → Int32) (n1 : Int32) (n2 : Int32) (n3 : Int32) (n4 : Int32) (n5 : Int32) (hsn : sn ≤ 24) (hsk : sk ≤ 8) (hdm : dm ≤ 4) (ff3 : Nat) (ss3 : Nat) (dd3 : Nat) (hff3 : ff3 < sn) (hss3 : ss3 < sk) (hdd3 : dd3 < 2) (c_6 : (0 : Int32) ≤ n5 ∧ n5 ≤ 1) (tn5 : Nat) (tn5a : 0 ≤ tn5) (tn5b : tn5 ≤ 1) (tn5e : n5 = nI tn5) (ff9 : Nat) (hff9 : ff9 < dm) : ff9 < 4 := by
  first | assumption | omega | decide
theorem lf_X11_marked_11 (a : Nat → Nat) (ap : Int32) (sn : Nat) (sk : Nat) (scu : Int32) (sch : Int32) (dm : Nat) (d0 : Nat → Int32) (d1 : Nat → Int32) (d2 : Nat → Int32) (n1 : Int32) (n2 : Int32) (n3 : Int32) (n4 : Int32) (n5 : Int32) (hsn : sn ≤ 24) (hsk : sk ≤ 8) (hdm : dm ≤ 4) (ff3 : Nat) (ss3 : Nat) (dd3 : Nat) (hff3 : ff3 < sn) (hss3 : ss3 < sk) (hdd3 : dd3 < 2) (c_6 : (0 : Int32) ≤ n5 ∧ n5 ≤ 1) (tn5 : Nat) (tn5a : 0 ≤ tn5) (tn5b : tn5 ≤ 1) (tn5e : n5 = nI tn5) (ff9 : Nat) (hff9 : ff9 < dm) : ((ff3 * 8 + ss3) * 2 + dd3) < 384 := by
  first | assumption | omega | decide
set_option maxHeartbeats 4000000 in
set_option maxRecDepth 100000 in
theorem c_X11_marked (l : Launch) (D : va_G) (cI cB cZ cJ : ClassId) (tx : List (ClassId × FieldType)) (a : Nat → Nat) (ap : Int32) (sn : Nat) (sk : Nat) (scu : Int32) (sch : Int32) (dm : Nat) (d0 : Nat → Int32) (d1 : Nat → Int32) (d2 : Nat → Int32) (n1 : Int32) (n2 : Int32) (n3 : Int32) (n4 : Int32) (n5 : Int32) (hsn : sn ≤ 24) (hsk : sk ≤ 8) (hdm : dm ≤ 4) : RdI l D cI cB cZ cJ tx yX11_marked cX11_marked 7 (some .int) 3 [.ref (a 0), .int n1, .int n2, .int n3, .int n4, .int n5] [(a 0, .inr (11, [.ref (a 1), .ref (a 2), .ref (a 3), .ref (a 4), .ref (a 5), .ref (a 6), .ref (a 7), .ref (a 8), .ref (a 9), .ref (a 10), .ref (a 11), .ref (a 12), .int ap])), (a 5, .inr (4, [.ref (a 18), .ref (a 19), .ref (a 20), .ref (a 21), .ref (a 22), .ref (a 23), .ref (a 24), .int (nI sn), .int (nI sk), .int scu, .int sch])), (a 6, .inr (0, [.ref (a 5), .ref (a 25), .ref (a 26), .ref (a 27), .ref (a 28), .ref (a 29), .int (nI dm)])), (a 25, .inl (cI, 1536, .inl d0)), (a 26, .inl (cI, 1536, .inl d1)), (a 27, .inl (cZ, 1536, .inl d2))] (fun r => True) := by
  refine rdi_of2 (by decide) (Nat.le_of_ble_eq_true rfl) ?_
  intro p e s m below meth c A ls H locs hC hK hP hD hA hS hl
  obtain ⟨hx, hb, hr, hml, hown, hts, hlocks, hin⟩ := hC
  have hown : s.vm.findClass RX11 = some m.cls := hown
  have hl : lv_has ls 7 [(0, .ref (a 0)), (1, .int n1), (2, .int n2), (3, .int n3), (4, .int n4), (5, .int n5)] := hl
  refine lv_aload_n hx hb dX11_marked_0 rfl (lv_at hl 0 rfl) ?_
  refine va_get (D := D) (ci := 11) (v := .ref (a 5)) (C := RX11) (T := TX11) (N := 13) hx hb hts inT_X11 hown hK.1 hP 0 rfl rfl 4 (by decide) (hts _ k_487) (fun _ h9 => h9) rfl dX11_marked_1 ?_
  refine lv_iload_n hx hb dX11_marked_4 rfl (lv_at hl 2 rfl) ?_
  refine lv_iload_n hx hb dX11_marked_5 rfl (lv_at hl 3 rfl) ?_
  refine lv_iload hx hb dX11_marked_6 (lv_at hl 4 rfl) ?_
  refine eRi (va_runV (As := [.int n2, .int n3, .int n4]) (rest := []) ⟨hx, hb, hml, hown, hts⟩ (c_X4_rivetAt_a l D cI cB cZ cJ tx a sn sk scu sch n2 n3 n4 (lf_X11_marked_1 a ap sn sk scu sch dm d0 d1 d2 n1 n2 n3 n4 n5 hsn hsk hdm) (lf_X11_marked_2 a ap sn sk scu sch dm d0 d1 d2 n1 n2 n3 n4 n5 hsn hsk hdm) H.size) (zV hts k_850 v_X4_rivetAt ⟨Nat.le_of_ble_eq_true rfl, Nat.le_of_ble_eq_true rfl⟩) (pV (px1 hK hP 1 rfl) hK hP 1 rfl rfl) rfl rfl hl.1 rfl (lv_room (Nat.le_of_ble_eq_true rfl)) dX11_marked_8 ⟨Nat.le_of_ble_eq_true rfl, Nat.le_of_ble_eq_true rfl⟩) hP hS hA (fun r_3 H locs wr_3 hP hS => ?_)
  rcases wr_3 with rfl | ⟨ff3, ss3, dd3, hff3, hss3, hdd3, rfl, rfl, rfl, rfl⟩
  · refine lv_istore (lv' := [(6, .int (-1)), (0, .ref (a 0)), (1, .int n1), (2, .int n2), (3, .int n3), (4, .int n4), (5, .int n5)]) hx hb dX11_marked_11 hl (by decide) rfl (fun ls hl => ?_)
    refine lv_iload hx hb dX11_marked_13 (lv_at hl 0 rfl) ?_
    refine lv_if_lt (tgt := 41) hx hb dX11_marked_15 (by decide) (fun _ => ?_) (fun c => absurd c (by decide))
    refine lv_sipush (v := (-10000)) hx hb dX11_marked_41 (by decide) ?_
    exact W.iret (v := (-10000)) hx hb hr (fun tt9 ht hW => ⟨⟨((-10000) : Int32), (), rfl, trivial, trivial⟩, hS.F ht⟩) hS.2.2 dX11_marked_44 hlocks
  · refine lv_istore (lv' := [(6, .int (nI ((ff3 * 8 + ss3) * 2 + dd3))), (0, .ref (a 0)), (1, .int n1), (2, .int (nI ff3)), (3, .int (nI ss3)), (4, .int (nI dd3)), (5, .int n5)]) hx hb dX11_marked_11 hl (by decide) rfl (fun ls hl => ?_)
    refine lv_iload hx hb dX11_marked_13 (lv_at hl 0 rfl) ?_
    refine lv_if_lt (tgt := 41) hx hb dX11_marked_15 (by decide) (fun c => absurd c (lf_X11_marked_4 a ap sn sk scu sch dm d0 d1 d2 n1 (nI ff3) (nI ss3) (nI dd3) n5 hsn hsk hdm ff3 ss3 dd3 hff3 hss3 hdd3)) (fun _ => ?_)
    refine lv_iload hx hb dX11_marked_18 (lv_at hl 6 rfl) ?_
    refine lv_iconst (v := 0) hx hb dX11_marked_20 (by decide) ?_
    refine lv_iconst (v := 1) hx hb dX11_marked_21 (by decide) ?_
    refine eRi (va_runS (As := [.int n5, .int 0, .int 1]) (rest := []) ⟨hx, hb, hml, hown, hts⟩ (c_X11_within l D cI cB cZ cJ tx n5 0 1 H.size) (zS hts k_527 v_X11_within ⟨Nat.le_of_ble_eq_true rfl, Nat.le_of_ble_eq_true rfl⟩) (px0 hK) rfl rfl hl.1 rfl (lv_room (Nat.le_of_ble_eq_true rfl)) dX11_marked_22 ⟨Nat.le_of_ble_eq_true rfl, Nat.le_of_ble_eq_true rfl⟩) hP hS hA (fun r_5 H locs wr_5 hP hS => ?_)
    subst wr_5
    refine lv_bi_eq (tgt := 41) hx hb dX11_marked_25 (by decide) (fun c_6 => ?_) (fun c_6 => ?_)
    · refine lv_sipush (v := (-10000)) hx hb dX11_marked_41 (by decide) ?_
      exact W.iret (v := (-10000)) hx hb hr (fun tt9 ht hW => ⟨⟨((-10000) : Int32), (), rfl, trivial, trivial⟩, hS.F ht⟩) hS.2.2 dX11_marked_44 hlocks
    · obtain ⟨tn5, tn5a, tn5b, tn5e⟩ := of_rng 0 1 rfl rfl c_6
      subst tn5e
      refine lv_aload_n hx hb dX11_marked_28 rfl (lv_at hl 1 rfl) ?_
      refine va_get (D := D) (ci := 11) (v := .ref (a 6)) (C := RX11) (T := TX11) (N := 13) hx hb hts inT_X11 hown hK.1 hP 0 rfl rfl 5 (by decide) (hts _ k_488) (fun _ h9 => h9) rfl dX11_marked_29 ?_
      refine lv_iload_n hx hb dX11_marked_32 rfl (lv_at hl 2 rfl) ?_
      refine lv_iload hx hb dX11_marked_33 (lv_at hl 0 rfl) ?_
      refine eRi (va_runV (As := [.int n1, .int (nI ((ff3 * 8 + ss3) * 2 + dd3))]) (rest := []) ⟨hx, hb, hml, hown, hts⟩ (c_X0_hasMark_a l D cI cB cZ cJ tx a dm d2 ((ff3 * 8 + ss3) * 2 + dd3) n1 (lf_X11_marked_7 a ap sn sk scu sch dm d0 d1 d2 n1 (nI ff3) (nI ss3) (nI dd3) (nI tn5) hsn hsk hdm ff3 ss3 dd3 hff3 hss3 hdd3 c_6 tn5 tn5a tn5b rfl) (lf_X11_marked_8 a ap sn sk scu sch dm d0 d1 d2 n1 (nI ff3) (nI ss3) (nI dd3) (nI tn5) hsn hsk hdm ff3 ss3 dd3 hff3 hss3 hdd3 c_6 tn5 tn5a tn5b rfl) H.size) (zV hts k_933 v_X0_hasMark ⟨Nat.le_of_ble_eq_true rfl, Nat.le_of_ble_eq_true rfl⟩) (pV (pxS hK hP hD [2, 5] (by decide) rfl) hK hP 2 rfl rfl) rfl rfl hl.1 rfl (lv_room (Nat.le_of_ble_eq_true rfl)) dX11_marked_35 ⟨Nat.le_of_ble_eq_true rfl, Nat.le_of_ble_eq_true rfl⟩) hP hS hA (fun r_9 H locs wr_9 hP hS => ?_)
      rcases wr_9 with rfl | ⟨ff9, hff9, rfl, rfl⟩
      · refine lv_if_ne (tgt := 45) hx hb dX11_marked_38 (by decide) (fun c => absurd c (by decide)) (fun _ => ?_)
        refine lv_sipush (v := (-10000)) hx hb dX11_marked_41 (by decide) ?_
        exact W.iret (v := (-10000)) hx hb hr (fun tt9 ht hW => ⟨⟨((-10000) : Int32), (), rfl, trivial, trivial⟩, hS.F ht⟩) hS.2.2 dX11_marked_44 hlocks
      · refine lv_if_ne (tgt := 45) hx hb dX11_marked_38 (by decide) (fun _ => ?_) (fun c => absurd c (by decide))
        refine lv_aload_n hx hb dX11_marked_45 rfl (lv_at hl 1 rfl) ?_
        refine va_get (D := D) (ci := 11) (v := .ref (a 6)) (C := RX11) (T := TX11) (N := 13) hx hb hts inT_X11 hown hK.1 hP 0 rfl rfl 5 (by decide) (hts _ k_488) (fun _ h9 => h9) rfl dX11_marked_46 ?_
        refine lv_iload_n hx hb dX11_marked_49 rfl (lv_at hl 2 rfl) ?_
        refine lv_iload hx hb dX11_marked_50 (lv_at hl 0 rfl) ?_
        refine lv_iload hx hb dX11_marked_52 (lv_at hl 6 rfl) ?_
        refine eRi (va_runV (As := [.int (nI ff9), .int (nI ((ff3 * 8 + ss3) * 2 + dd3)), .int (nI tn5)]) (rest := []) ⟨hx, hb, hml, hown, hts⟩ (c_X0_at l D cI cB cZ cJ tx a dm d0 d1 ff9 ((ff3 * 8 + ss3) * 2 + dd3) (nI tn5) (lf_X11_marked_10 a ap sn sk scu sch dm d0 d1 d2 (nI ff9) (nI ff3) (nI ss3) (nI dd3) (nI tn5) hsn hsk hdm ff3 ss3 dd3 hff3 hss3 hdd3 c_6 tn5 tn5a tn5b rfl ff9 hff9) (lf_X11_marked_11 a ap sn sk scu sch dm d0 d1 d2 (nI ff9) (nI ff3) (nI ss3) (nI dd3) (nI tn5) hsn hsk hdm ff3 ss3 dd3 hff3 hss3 hdd3 c_6 tn5 tn5a tn5b rfl ff9 hff9) H.size) (zV hts k_934 v_X0_at ⟨Nat.le_of_ble_eq_true rfl, Nat.le_of_ble_eq_true rfl⟩) (pV (pxS hK hP hD [2, 3, 4] (by decide) rfl) hK hP 2 rfl rfl) rfl rfl hl.1 rfl (lv_room (Nat.le_of_ble_eq_true rfl)) dX11_marked_54 ⟨Nat.le_of_ble_eq_true rfl, Nat.le_of_ble_eq_true rfl⟩) hP hS hA (fun r_12 H locs wr_12 hP hS => ?_)
        exact W.iret (v := r_12) hx hb hr (fun tt9 ht hW => ⟨⟨(r_12 : Int32), (), rfl, trivial, trivial⟩, hS.F ht⟩) hS.2.2 dX11_marked_57 hlocks
