theorem lf_X0_hasMark_g_5 (a : Nat → Nat) (dm : Nat) (d2 : Nat → Int32) (x1 : Nat) (x2 : Nat) (hdm : dm ≤ 4) (hx1 : x1 < dm) (hx2 : x2 < 384) (c_2 : (0 : Int32) ≤ nI x1 ∧ nI x1 ≤ nI dm - 1) (c_4 : (0 : Int32) ≤ nI x2 ∧ nI x2 ≤ 383) : vp_in (nI ((x1 * 384) + x2)) 1536 := by
  first | exact vp_in_nI (by omega) (by decide) | (unfold vp_in; decide)
set_option maxHeartbeats 4000000 in
set_option maxRecDepth 100000 in
theorem c_X0_hasMark_g (l : Launch) (D : va_G) (cI cB cZ cJ : ClassId) (tx : List (ClassId × FieldType)) (a : Nat → Nat) (dm : Nat) (d2 : Nat → Int32) (x1 : Nat) (x2 : Nat) (hdm : dm ≤ 4) (hx1 : x1 < dm) (hx2 : x2 < 384) : RdI l D cI cB cZ cJ tx yX0_hasMark cX0_hasMark 3 (some .boolean) 2 [.ref (a 6), .int (nI x1), .int (nI x2)] [(a 6, .inr (0, [.ref (a 5), .ref (a 25), .ref (a 26), .ref (a 27), .ref (a 28), .ref (a 29), .int (nI dm)])), (a 27, .inl (cZ, 1536, .inl d2))] (fun r => True) := by
  refine rdi_of2 (by decide) (Nat.le_of_ble_eq_true rfl) ?_
  intro p e s m below meth c A ls H locs hC hK hP hD hA hS hl
  obtain ⟨hx, hb, hr, hml, hown, hts, hlocks, hin⟩ := hC
  have hown : s.vm.findClass RX0 = some m.cls := hown
  have hl : lv_has ls 3 [(0, .ref (a 6)), (1, .int (nI x1)), (2, .int (nI x2))] := hl
  refine lv_aload_n hx hb dX0_hasMark_0 rfl (lv_at hl 0 rfl) ?_
  refine lv_iload_n hx hb dX0_hasMark_1 rfl (lv_at hl 1 rfl) ?_
  refine eRi (va_runV (As := [.int (nI x1)]) (rest := []) ⟨hx, hb, hml, hown, hts⟩ (c_X0_has l D cI cB cZ cJ tx a dm (nI x1) H.size) (zV hts k_928 v_X0_has ⟨Nat.le_of_ble_eq_true rfl, Nat.le_of_ble_eq_true rfl⟩) (pV (px1 hK hP 0 rfl) hK hP 0 rfl rfl) rfl rfl hl.1 rfl (lv_room (Nat.le_of_ble_eq_true rfl)) dX0_hasMark_2 ⟨Nat.le_of_ble_eq_true rfl, Nat.le_of_ble_eq_true rfl⟩) hP hS hA (fun r_1 H locs wr_1 hP hS => ?_)
  subst wr_1
  refine lv_bi_eq (tgt := 38) hx hb dX0_hasMark_5 (by decide) (fun c_2 => ?_) (fun c_2 => ?_)
  · refine lv_iconst (v := 0) hx hb dX0_hasMark_38 (by decide) ?_
    exact W.zret (v := 0) hx hb hr (by decide) (fun tt9 ht hW => ⟨⟨(0 : Int32), (), rfl, trivial, trivial⟩, hS.F ht⟩) hS.2.2 dX0_hasMark_39 hlocks
  · refine lv_iload_n hx hb dX0_hasMark_8 rfl (lv_at hl 2 rfl) ?_
    refine lv_iconst (v := 0) hx hb dX0_hasMark_9 (by decide) ?_
    refine lv_sipush (v := 383) hx hb dX0_hasMark_10 (by decide) ?_
    refine eRi (va_runSN (As := [.int (nI x2), .int 0, .int 383]) (rest := []) ⟨hx, hb, hml, hown, hts⟩ (c_X11_within l D cI cB cZ cJ tx (nI x2) 0 383 H.size) (zSN hts hK n_903 v_X11_within ⟨Nat.le_of_ble_eq_true rfl, Nat.le_of_ble_eq_true rfl⟩) (px0 hK) rfl rfl hl.1 rfl (lv_room (Nat.le_of_ble_eq_true rfl)) dX0_hasMark_13 ⟨Nat.le_of_ble_eq_true rfl, Nat.le_of_ble_eq_true rfl⟩) hP hS hA (fun r_3 H locs wr_3 hP hS => ?_)
    subst wr_3
    refine lv_bi_eq (tgt := 38) hx hb dX0_hasMark_16 (by decide) (fun c_4 => ?_) (fun c_4 => ?_)
    · refine lv_iconst (v := 0) hx hb dX0_hasMark_38 (by decide) ?_
      exact W.zret (v := 0) hx hb hr (by decide) (fun tt9 ht hW => ⟨⟨(0 : Int32), (), rfl, trivial, trivial⟩, hS.F ht⟩) hS.2.2 dX0_hasMark_39 hlocks
    · refine lv_aload_n hx hb dX0_hasMark_19 rfl (lv_at hl 0 rfl) ?_
      refine va_get (D := D) (ci := 0) (v := .ref (a 27)) (C := RX0) (T := TX0) (N := 7) hx hb hts inT_X0 hown hK.1 hP 0 rfl rfl 3 (by decide) (hts _ k_297) (fun _ h9 => h9) rfl dX0_hasMark_20 ?_
      refine lv_iload_n hx hb dX0_hasMark_23 rfl (lv_at hl 1 rfl) ?_
      refine lv_sipush (v := 384) hx hb dX0_hasMark_24 (by decide) ?_
      refine lv_imul hx hb dX0_hasMark_27 ?_
      refine lv_topv (y := nI (x1 * 384)) (pk_mul x1 384) ?_
      refine lv_iload_n hx hb dX0_hasMark_28 rfl (lv_at hl 2 rfl) ?_
      refine lv_iadd hx hb dX0_hasMark_29 ?_
      refine lv_topv (y := nI ((x1 * 384) + x2)) (nI_add (x1 * 384) x2) ?_
      refine ld_z hx hb hK hP 1 rfl (lf_X0_hasMark_g_5 a dm d2 x1 x2 hdm hx1 hx2 c_2 c_4) dX0_hasMark_30 (fun x_6 => ?_)
      refine lv_if_eq (tgt := 38) hx hb dX0_hasMark_31 (by decide) (fun c_7 => ?_) (fun c_7 => ?_)
      · refine lv_iconst (v := 0) hx hb dX0_hasMark_38 (by decide) ?_
        exact W.zret (v := 0) hx hb hr (by decide) (fun tt9 ht hW => ⟨⟨(0 : Int32), (), rfl, trivial, trivial⟩, hS.F ht⟩) hS.2.2 dX0_hasMark_39 hlocks
      · refine lv_iconst (v := 1) hx hb dX0_hasMark_34 (by decide) ?_
        refine lv_goto (tgt := 39) hx hb dX0_hasMark_35 (by decide) ?_
        exact W.zret (v := 1) hx hb hr (by decide) (fun tt9 ht hW => ⟨⟨(1 : Int32), (), rfl, trivial, trivial⟩, hS.F ht⟩) hS.2.2 dX0_hasMark_39 hlocks

theorem lf_X0_gather_d3_3 (a : Nat → Nat) (dm : Nat) (d0 : Nat → Int32) (d1 : Nat → Int32) (d2 : Nat → Int32) (d3 : Nat → Int32) (x1 : Nat) (x2 : Nat) (n3 : Int32) (hdm : dm ≤ 4) (hx1 : x1 < dm) (hx2 : x2 < dm) (j1 : Nat) (cn : Nat) (y6_a28 : Nat → Int32) (k6 : Nat) (hj6 : j1 ≤ 384) (hk6 : 384 < j1 + (k6 + 1)) (hcn : cn ≤ j1) (c_1 : 384 ≤ nI j1) : 384 ≤ j1 := by
  exact (nI_leI (a := 384) (b := j1) (by omega) (by omega)).mp c_1
theorem lf_X0_gather_d3_4 (a : Nat → Nat) (dm : Nat) (d0 : Nat → Int32) (d1 : Nat → Int32) (d2 : Nat → Int32) (d3 : Nat → Int32) (x1 : Nat) (x2 : Nat) (n3 : Int32) (hdm : dm ≤ 4) (hx1 : x1 < dm) (hx2 : x2 < dm) (j1 : Nat) (cn : Nat) (y6_a28 : Nat → Int32) (k6 : Nat) (hj6 : j1 ≤ 384) (hk6 : 384 < j1 + (k6 + 1)) (hcn : cn ≤ j1) (c_1 : 384 ≤ nI j1) (n_2 : 384 ≤ j1) : ∃ m : Nat, m ≤ 384 ∧ (nI cn : Int32) = nI m := by
  exact ⟨_, by omega, rfl⟩
theorem lf_X0_gather_d3_6 (a : Nat → Nat) (dm : Nat) (d0 : Nat → Int32) (d1 : Nat → Int32) (d2 : Nat → Int32) (d3 : Nat → Int32) (x1 : Nat) (x2 : Nat) (n3 : Int32) (hdm : dm ≤ 4) (hx1 : x1 < dm) (hx2 : x2 < dm) (j1 : Nat) (cn : Nat) (y6_a28 : Nat → Int32) (k6 : Nat) (hj6 : j1 ≤ 384) (hk6 : 384 < j1 + (k6 + 1)) (hcn : cn ≤ j1) (c_1 : ¬ 384 ≤ nI j1) : j1 < 384 := by
  exact Nat.lt_of_not_le (fun q => c_1 ((nI_leI (a := 384) (b := j1) (by omega) (by omega)).mpr q))
theorem lf_X0_gather_d3_7 (a : Nat → Nat) (dm : Nat) (d0 : Nat → Int32) (d1 : Nat → Int32) (d2 : Nat → Int32) (d3 : Nat → Int32) (x1 : Nat) (x2 : Nat) (n3 : Int32) (hdm : dm ≤ 4) (hx1 : x1 < dm) (hx2 : x2 < dm) (j1 : Nat) (cn : Nat) (y6_a28 : Nat → Int32) (k6 : Nat) (hj6 : j1 ≤ 384) (hk6 : 384 < j1 + (k6 + 1)) (hcn : cn ≤ j1) (c_1 : ¬ 384 ≤ nI j1) (n_5 : j1 < 384) : dm ≤ 4 := by
  first | assumption | omega | decide
theorem lf_X0_gather_d3_8 (a : Nat → Nat) (dm : Nat) (d0 : Nat → Int32) (d1 : Nat → Int32) (d2 : Nat → Int32) (d3 : Nat → Int32) (x1 : Nat) (x2 : Nat) (n3 : Int32) (hdm : dm ≤ 4) (hx1 : x1 < dm) (hx2 : x2 < dm) (j1 : Nat) (cn : Nat) (y6_a28 : Nat → Int32) (k6 : Nat) (hj6 : j1 ≤ 384) (hk6 : 384 < j1 + (k6 + 1)) (hcn : cn ≤ j1) (c_1 : ¬ 384 ≤ nI j1) (n_5 : j1 < 384) : x1 < dm := by
  first | assumption | omega | decide
theorem lf_X0_gather_d3_9 (a : Nat → Nat) (dm : Nat) (d0 : Nat → Int32) (d1 : Nat → Int32) (d2 : Nat → Int32) (d3 : Nat → Int32) (x1 : Nat) (x2 : Nat) (n3 : Int32) (hdm : dm ≤ 4) (hx1 : x1 < dm) (hx2 : x2 < dm) (j1 : Nat) (cn : Nat) (y6_a28 : Nat → Int32) (k6 : Nat) (hj6 : j1 ≤ 384) (hk6 : 384 < j1 + (k6 + 1)) (hcn : cn ≤ j1) (c_1 : ¬ 384 ≤ nI j1) (n_5 : j1 < 384) : j1 < 384 := by
  first | assumption | omega | decide
theorem lf_X0_gather_d3_12 (a : Nat → Nat) (dm : Nat) (d0 : Nat → Int32) (d1 : Nat → Int32) (d2 : Nat → Int32) (d3 : Nat → Int32) (x1 : Nat) (x2 : Nat) (n3 : Int32) (hdm : dm ≤ 4) (hx1 : x1 < dm) (hx2 : x2 < dm) (j1 : Nat) (cn : Nat) (y6_a28 : Nat → Int32) (k6 : Nat) (hj6 : j1 ≤ 384) (hk6 : 384 < j1 + (k6 + 1)) (hcn : cn ≤ j1) (c_1 : ¬ 384 ≤ nI j1) (n_5 : j1 < 384) (r_10 : Int32) (c_11 : r_10 = 0) : cn ≤ (j1 + 1) := by
  first | assumption | omega
theorem lf_X0_gather_d3_13 (a : Nat → Nat) (dm : Nat) (d0 : Nat → Int32) (d1 : Nat → Int32) (d2 : Nat → Int32) (d3 : Nat → Int32) (x1 : Nat) (x2 : Nat) (n3 : Int32) (hdm : dm ≤ 4) (hx1 : x1 < dm) (hx2 : x2 < dm) (j1 : Nat) (cn : Nat) (y6_a28 : Nat → Int32) (k6 : Nat) (hj6 : j1 ≤ 384) (hk6 : 384 < j1 + (k6 + 1)) (hcn : cn ≤ j1) (c_1 : ¬ 384 ≤ nI j1) (n_5 : j1 < 384) (r_10 : Int32) (c_11 : ¬ r_10 = 0) : dm ≤ 4 := by
  first | assumption | omega | decide
theorem lf_X0_gather_d3_14 (a : Nat → Nat) (dm : Nat) (d0 : Nat → Int32) (d1 : Nat → Int32) (d2 : Nat → Int32) (d3 : Nat → Int32) (x1 : Nat) (x2 : Nat) (n3 : Int32) (hdm : dm ≤ 4) (hx1 : x1 < dm) (hx2 : x2 < dm) (j1 : Nat) (cn : Nat) (y6_a28 : Nat → Int32) (k6 : Nat) (hj6 : j1 ≤ 384) (hk6 : 384 < j1 + (k6 + 1)) (hcn : cn ≤ j1) (c_1 : ¬ 384 ≤ nI j1) (n_5 : j1 < 384) (r_10 : Int32) (c_11 : ¬ r_10 = 0) : x2 < dm := by
  first | assumption | omega | decide
theorem lf_X0_gather_d3_15 (a : Nat → Nat) (dm : Nat) (d0 : Nat → Int32) (d1 : Nat → Int32) (d2 : Nat → Int32) (d3 : Nat → Int32) (x1 : Nat) (x2 : Nat) (n3 : Int32) (hdm : dm ≤ 4) (hx1 : x1 < dm) (hx2 : x2 < dm) (j1 : Nat) (cn : Nat) (y6_a28 : Nat → Int32) (k6 : Nat) (hj6 : j1 ≤ 384) (hk6 : 384 < j1 + (k6 + 1)) (hcn : cn ≤ j1) (c_1 : ¬ 384 ≤ nI j1) (n_5 : j1 < 384) (r_10 : Int32) (c_11 : ¬ r_10 = 0) : j1 < 384 := by
  first | assumption | omega | decide
theorem lf_X0_gather_d3_18 (a : Nat → Nat) (dm : Nat) (d0 : Nat → Int32) (d1 : Nat → Int32) (d2 : Nat → Int32) (d3 : Nat → Int32) (x1 : Nat) (x2 : Nat) (n3 : Int32) (hdm : dm ≤ 4) (hx1 : x1 < dm) (hx2 : x2 < dm) (j1 : Nat) (cn : Nat) (y6_a28 : Nat → Int32) (k6 : Nat) (hj6 : j1 ≤ 384) (hk6 : 384 < j1 + (k6 + 1)) (hcn : cn ≤ j1) (c_1 : ¬ 384 ≤ nI j1) (n_5 : j1 < 384) (r_10 : Int32) (c_11 : ¬ r_10 = 0) (r_16 : Int32) (c_17 : r_16 = 0) : cn ≤ (j1 + 1) := by
  first | assumption | omega
theorem lf_X0_gather_d3_19 (a : Nat → Nat) (dm : Nat) (d0 : Nat → Int32) (d1 : Nat → Int32) (d2 : Nat → Int32) (d3 : Nat → Int32) (x1 : Nat) (x2 : Nat) (n3 : Int32) (hdm : dm ≤ 4) (hx1 : x1 < dm) (hx2 : x2 < dm) (j1 : Nat) (cn : Nat) (y6_a28 : Nat → Int32) (k6 : Nat) (hj6 : j1 ≤ 384) (hk6 : 384 < j1 + (k6 + 1)) (hcn : cn ≤ j1) (c_1 : ¬ 384 ≤ nI j1) (n_5 : j1 < 384) (r_10 : Int32) (c_11 : ¬ r_10 = 0) (r_16 : Int32) (c_17 : ¬ r_16 = 0) : x2 < 4 := by
  first | assumption | omega | decide
theorem lf_X0_gather_d3_20 (a : Nat → Nat) (dm : Nat) (d0 : Nat → Int32) (d1 : Nat → Int32) (d2 : Nat → Int32) (d3 : Nat → Int32) (x1 : Nat) (x2 : Nat) (n3 : Int32) (hdm : dm ≤ 4) (hx1 : x1 < dm) (hx2 : x2 < dm) (j1 : Nat) (cn : Nat) (y6_a28 : Nat → Int32) (k6 : Nat) (hj6 : j1 ≤ 384) (hk6 : 384 < j1 + (k6 + 1)) (hcn : cn ≤ j1) (c_1 : ¬ 384 ≤ nI j1) (n_5 : j1 < 384) (r_10 : Int32) (c_11 : ¬ r_10 = 0) (r_16 : Int32) (c_17 : ¬ r_16 = 0) : j1 < 384 := by
  first | assumption | omega | decide
theorem lf_X0_gather_d3_22 (a : Nat → Nat) (dm : Nat) (d0 : Nat → Int32) (d1 : Nat → Int32) (d2 : Nat → Int32) (d3 : Nat → Int32) (x1 : Nat) (x2 : Nat) (n3 : Int32) (hdm : dm ≤ 4) (hx1 : x1 < dm) (hx2 : x2 < dm) (j1 : Nat) (cn : Nat) (y6_a28 : Nat → Int32) (k6 : Nat) (hj6 : j1 ≤ 384) (hk6 : 384 < j1 + (k6 + 1)) (hcn : cn ≤ j1) (c_1 : ¬ 384 ≤ nI j1) (n_5 : j1 < 384) (r_10 : Int32) (c_11 : ¬ r_10 = 0) (r_16 : Int32) (c_17 : ¬ r_16 = 0) (r_21 : Int32) : x1 < 4 := by
  first | assumption | omega | decide
theorem lf_X0_gather_d3_23 (a : Nat → Nat) (dm : Nat) (d0 : Nat → Int32) (d1 : Nat → Int32) (d2 : Nat → Int32) (d3 : Nat → Int32) (x1 : Nat) (x2 : Nat) (n3 : Int32) (hdm : dm ≤ 4) (hx1 : x1 < dm) (hx2 : x2 < dm) (j1 : Nat) (cn : Nat) (y6_a28 : Nat → Int32) (k6 : Nat) (hj6 : j1 ≤ 384) (hk6 : 384 < j1 + (k6 + 1)) (hcn : cn ≤ j1) (c_1 : ¬ 384 ≤ nI j1) (n_5 : j1 < 384) (r_10 : Int32) (c_11 : ¬ r_10 = 0) (r_16 : Int32) (c_17 : ¬ r_16 = 0) (r_21 : Int32) : j1 < 384 := by
  first | assumption | omega | decide
theorem lf_X0_gather_d3_27 (a : Nat → Nat) (dm : Nat) (d0 : Nat → Int32) (d1 : Nat → Int32) (d2 : Nat → Int32) (d3 : Nat → Int32) (x1 : Nat) (x2 : Nat) (n3 : Int32) (hdm : dm ≤ 4) (hx1 : x1 < dm) (hx2 : x2 < dm) (j1 : Nat) (cn : Nat) (y6_a28 : Nat → Int32) (k6 : Nat) (hj6 : j1 ≤ 384) (hk6 : 384 < j1 + (k6 + 1)) (hcn : cn ≤ j1) (c_1 : ¬ 384 ≤ nI j1) (n_5 : j1 < 384) (r_10 : Int32) (c_11 : ¬ r_10 = 0) (r_16 : Int32) (c_17 : ¬ r_16 = 0) (r_21 : Int32) (r_24 : Int32) (x_25 : Int32) (ex_25 : x_25 = r_21 - r_24) : vp_in (nI cn) 384 := by
  first | exact vp_in_nI (by omega) (by decide) | (unfold vp_in; decide)
theorem lf_X0_gather_d3_28 (a : Nat → Nat) (dm : Nat) (d0 : Nat → Int32) (d1 : Nat → Int32) (d2 : Nat → Int32) (d3 : Nat → Int32) (x1 : Nat) (x2 : Nat) (n3 : Int32) (hdm : dm ≤ 4) (hx1 : x1 < dm) (hx2 : x2 < dm) (j1 : Nat) (cn : Nat) (y6_a28 : Nat → Int32) (k6 : Nat) (hj6 : j1 ≤ 384) (hk6 : 384 < j1 + (k6 + 1)) (hcn : cn ≤ j1) (c_1 : ¬ 384 ≤ nI j1) (n_5 : j1 < 384) (r_10 : Int32) (c_11 : ¬ r_10 = 0) (r_16 : Int32) (c_17 : ¬ r_16 = 0) (r_21 : Int32) (r_24 : Int32) (x_25 : Int32) (ex_25 : x_25 = r_21 - r_24) (f_26 : Nat → Int32) : ((cn + 1)) ≤ (j1 + 1) := by
  first | assumption | omega
theorem lf_X0_gather_d3_29 (a : Nat → Nat) (dm : Nat) (d0 : Nat → Int32) (d1 : Nat → Int32) (d2 : Nat → Int32) (d3 : Nat → Int32) (x1 : Nat) (x2 : Nat) (n3 : Int32) (hdm : dm ≤ 4) (hx1 : x1 < dm) (hx2 : x2 < dm) : 0 ≤ 0 := by
  first | assumption | omega
set_option maxHeartbeats 4000000 in
set_option maxRecDepth 100000 in
theorem c_X0_gather_d3 (l : Launch) (D : va_G) (cI cB cZ cJ : ClassId) (tx : List (ClassId × FieldType)) (a : Nat → Nat) (dm : Nat) (d0 : Nat → Int32) (d1 : Nat → Int32) (d2 : Nat → Int32) (d3 : Nat → Int32) (x1 : Nat) (x2 : Nat) (n3 : Int32) (hdm : dm ≤ 4) (hx1 : x1 < dm) (hx2 : x2 < dm) : WrI l D cI cB cZ cJ tx yX0_gather cX0_gather 7 (some .int) 3 0 0 [.ref (a 6), .int (nI x1), .int (nI x2), .int n3, .ref (a 28)] [(a 6, .inr (0, [.ref (a 5), .ref (a 25), .ref (a 26), .ref (a 27), .ref (a 28), .ref (a 29), .int (nI dm)])), (a 25, .inl (cI, 1536, .inl d0)), (a 26, .inl (cI, 1536, .inl d1)), (a 27, .inl (cZ, 1536, .inl d2)), (a 28, .inl (cI, 384, .inl d3))] (fun (r : Int32) (v : (Nat → Int32)) => ∃ m : Nat, m ≤ 384 ∧ r = nI m) (fun v => [(a 6, .inr (0, [.ref (a 5), .ref (a 25), .ref (a 26), .ref (a 27), .ref (a 28), .ref (a 29), .int (nI dm)])), (a 25, .inl (cI, 1536, .inl d0)), (a 26, .inl (cI, 1536, .inl d1)), (a 27, .inl (cZ, 1536, .inl d2)), (a 28, .inl (cI, 384, .inl v))]) := by
  refine wri_of2 (by decide) (Nat.le_of_ble_eq_true rfl) ?_
  intro p e s m below meth c A ls H locs hC hK hP hD hA hS hl
  obtain ⟨hx, hb, hr, hml, hown, hts, hlocks, hin⟩ := hC
  have hown : s.vm.findClass RX0 = some m.cls := hown
  have hl : lv_has ls 7 [(0, .ref (a 6)), (1, .int (nI x1)), (2, .int (nI x2)), (3, .int n3), (4, .ref (a 28))] := hl
  refine lv_iconst (v := 0) hx hb dX0_gather_0 (by decide) ?_
  refine lv_istore (lv' := [(5, .int 0), (0, .ref (a 6)), (1, .int (nI x1)), (2, .int (nI x2)), (3, .int n3), (4, .ref (a 28))]) hx hb dX0_gather_1 hl (by decide) rfl (fun ls hl => ?_)
  refine lv_iconst (v := 0) hx hb dX0_gather_3 (by decide) ?_
  refine lv_istore (lv' := [(6, .int 0), (5, .int 0), (0, .ref (a 6)), (1, .int (nI x1)), (2, .int (nI x2)), (3, .int n3), (4, .ref (a 28))]) hx hb dX0_gather_4 hl (by decide) rfl (fun ls hl => ?_)
  have lp6 : ∀ (k6 : Nat) (j1 : Nat) (cn : Nat) (y6_a28 : Nat → Int32) (H : Heap) (locs : List Loc) (ls : Array Slot), j1 ≤ 384 → 384 < j1 + k6 → (cn ≤ j1) → va_P D vwCl [(a 6, .inr (0, [.ref (a 5), .ref (a 25), .ref (a 26), .ref (a 27), .ref (a 28), .ref (a 29), .int (nI dm)])), (a 25, .inl (cI, 1536, .inl d0)), (a 26, .inl (cI, 1536, .inl d1)), (a 27, .inl (cZ, 1536, .inl d2)), (a 28, .inl (cI, 384, .inl y6_a28))] H → va_D A [(a 6, .inr (0, [.ref (a 5), .ref (a 25), .ref (a 26), .ref (a 27), .ref (a 28), .ref (a 29), .int (nI dm)])), (a 25, .inl (cI, 1536, .inl d0)), (a 26, .inl (cI, 1536, .inl d1)), (a 27, .inl (cZ, 1536, .inl d2)), (a 28, .inl (cI, 384, .inl y6_a28))] → va_S A s.heap H locs → lv_has ls 7 [(6, .int (nI j1)), (5, .int (nI cn)), (0, .ref (a 6)), (1, .int (nI x1)), (2, .int (nI x2)), (3, .int n3), (4, .ref (a 28))] → W p l e (rmX 3 0 0) s m ([.ref (a 6), .int (nI x1), .int (nI x2), .int n3, .ref (a 28)] : List Value).toArray below meth c H locs 0 0 (MQ below (va_Qi (fun (r : Int32) (v : (Nat → Int32)) => ∃ m : Nat, m ≤ 384 ∧ r = nI m) (fun u => BX D A ((fun v => [(a 6, .inr (0, [.ref (a 5), .ref (a 25), .ref (a 26), .ref (a 27), .ref (a 28), .ref (a 29), .int (nI dm)])), (a 25, .inl (cI, 1536, .inl d0)), (a 26, .inl (cI, 1536, .inl d1)), (a 27, .inl (cZ, 1536, .inl d2)), (a 28, .inl (cI, 384, .inl v))]) u)) A) ([.ref (a 6), .int (nI x1), .int (nI x2), .int n3, .ref (a 28)] : List Value).toArray s 0 0 A) (F0 m 6 ls []) := by
    intro k6
    induction k6 with
    | zero =>
      intro j1 cn y6_a28 H locs ls hj6 hk6 hcn hP hD hS hl
      exact absurd hk6 (by omega)
    | succ k6 ih6 =>
      intro j1 cn y6_a28 H locs ls hj6 hk6 hcn hP hD hS hl
      refine lv_iload hx hb dX0_gather_6 (lv_at hl 0 rfl) ?_
      refine lv_sipush (v := 384) hx hb dX0_gather_8 (by decide) ?_
      refine lv_icmp_ge (tgt := 65) hx hb dX0_gather_11 (by decide) (fun c_1 => ?_) (fun c_1 => ?_)
      · have n_2 : 384 ≤ j1 := (lf_X0_gather_d3_3 a dm d0 d1 d2 d3 x1 x2 n3 hdm hx1 hx2 j1 cn y6_a28 k6 hj6 hk6 hcn c_1)
        refine lv_iload hx hb dX0_gather_65 (lv_at hl 1 rfl) ?_
        exact W.iret (v := nI cn) hx hb hr (fun tt9 ht hW => ⟨⟨(nI cn : Int32), ((y6_a28 : Nat → Int32)), rfl, (lf_X0_gather_d3_4 a dm d0 d1 d2 d3 x1 x2 n3 hdm hx1 hx2 j1 cn y6_a28 k6 hj6 hk6 hcn c_1 n_2), ⟨by rw [ht]; exact hP, hD⟩⟩, hS.F ht⟩) hS.2.2 dX0_gather_67 hlocks
      · have n_5 : j1 < 384 := (lf_X0_gather_d3_6 a dm d0 d1 d2 d3 x1 x2 n3 hdm hx1 hx2 j1 cn y6_a28 k6 hj6 hk6 hcn c_1)
        refine lv_aload_n hx hb dX0_gather_14 rfl (lv_at hl 2 rfl) ?_
        refine lv_iload_n hx hb dX0_gather_15 rfl (lv_at hl 3 rfl) ?_
        refine lv_iload hx hb dX0_gather_16 (lv_at hl 0 rfl) ?_
        refine eRi (va_runV (As := [.int (nI x1), .int (nI j1)]) (rest := []) ⟨hx, hb, hml, hown, hts⟩ (c_X0_hasMark_g l D cI cB cZ cJ tx a dm d2 x1 j1 (lf_X0_gather_d3_7 a dm d0 d1 d2 d3 x1 x2 n3 hdm hx1 hx2 j1 cn y6_a28 k6 hj6 hk6 hcn c_1 n_5) (lf_X0_gather_d3_8 a dm d0 d1 d2 d3 x1 x2 n3 hdm hx1 hx2 j1 cn y6_a28 k6 hj6 hk6 hcn c_1 n_5) (lf_X0_gather_d3_9 a dm d0 d1 d2 d3 x1 x2 n3 hdm hx1 hx2 j1 cn y6_a28 k6 hj6 hk6 hcn c_1 n_5) H.size) (zV hts k_924 v_X0_hasMark ⟨Nat.le_of_ble_eq_true rfl, Nat.le_of_ble_eq_true rfl⟩) (pV (pxS hK hP hD [0, 3] (by decide) rfl) hK hP 0 rfl rfl) rfl rfl hl.1 rfl (lv_room (Nat.le_of_ble_eq_true rfl)) dX0_gather_18 ⟨Nat.le_of_ble_eq_true rfl, Nat.le_of_ble_eq_true rfl⟩) hP hS hA (fun r_10 H locs wr_10 hP hS => ?_)
        refine lv_if_eq (tgt := 59) hx hb dX0_gather_21 (by decide) (fun c_11 => ?_) (fun c_11 => ?_)
        · refine lv_iinc (v := nI (j1 + 1)) (lv' := [(6, .int (nI (j1 + 1))), (5, .int (nI cn)), (0, .ref (a 6)), (1, .int (nI x1)), (2, .int (nI x2)), (3, .int n3), (4, .ref (a 28))]) hx hb dX0_gather_59 hl (k := 0) rfl (nI_1 j1) (by decide) rfl (fun ls hl => ?_)
          refine lv_goto (tgt := 6) hx hb dX0_gather_62 (by decide) ?_
          exact ih6 (j1 + 1) cn y6_a28 H locs ls (by omega) (by omega) (lf_X0_gather_d3_12 a dm d0 d1 d2 d3 x1 x2 n3 hdm hx1 hx2 j1 cn y6_a28 k6 hj6 hk6 hcn c_1 n_5 r_10 c_11) (hP.sub [0, 1, 2, 3, 4] rfl) (hD.sub [0, 1, 2, 3, 4] (by decide) rfl) hS (lv_sub hl [0, 1, 2, 3, 4, 5, 6] rfl)
        · refine lv_aload_n hx hb dX0_gather_24 rfl (lv_at hl 2 rfl) ?_
          refine lv_iload_n hx hb dX0_gather_25 rfl (lv_at hl 4 rfl) ?_
          refine lv_iload hx hb dX0_gather_26 (lv_at hl 0 rfl) ?_
          refine eRi (va_runV (As := [.int (nI x2), .int (nI j1)]) (rest := []) ⟨hx, hb, hml, hown, hts⟩ (c_X0_hasMark_g l D cI cB cZ cJ tx a dm d2 x2 j1 (lf_X0_gather_d3_13 a dm d0 d1 d2 d3 x1 x2 n3 hdm hx1 hx2 j1 cn y6_a28 k6 hj6 hk6 hcn c_1 n_5 r_10 c_11) (lf_X0_gather_d3_14 a dm d0 d1 d2 d3 x1 x2 n3 hdm hx1 hx2 j1 cn y6_a28 k6 hj6 hk6 hcn c_1 n_5 r_10 c_11) (lf_X0_gather_d3_15 a dm d0 d1 d2 d3 x1 x2 n3 hdm hx1 hx2 j1 cn y6_a28 k6 hj6 hk6 hcn c_1 n_5 r_10 c_11) H.size) (zV hts k_924 v_X0_hasMark ⟨Nat.le_of_ble_eq_true rfl, Nat.le_of_ble_eq_true rfl⟩) (pV (pxS hK hP hD [0, 3] (by decide) rfl) hK hP 0 rfl rfl) rfl rfl hl.1 rfl (lv_room (Nat.le_of_ble_eq_true rfl)) dX0_gather_28 ⟨Nat.le_of_ble_eq_true rfl, Nat.le_of_ble_eq_true rfl⟩) hP hS hA (fun r_16 H locs wr_16 hP hS => ?_)
          refine lv_if_eq (tgt := 59) hx hb dX0_gather_31 (by decide) (fun c_17 => ?_) (fun c_17 => ?_)
          · refine lv_iinc (v := nI (j1 + 1)) (lv' := [(6, .int (nI (j1 + 1))), (5, .int (nI cn)), (0, .ref (a 6)), (1, .int (nI x1)), (2, .int (nI x2)), (3, .int n3), (4, .ref (a 28))]) hx hb dX0_gather_59 hl (k := 0) rfl (nI_1 j1) (by decide) rfl (fun ls hl => ?_)
            refine lv_goto (tgt := 6) hx hb dX0_gather_62 (by decide) ?_
            exact ih6 (j1 + 1) cn y6_a28 H locs ls (by omega) (by omega) (lf_X0_gather_d3_18 a dm d0 d1 d2 d3 x1 x2 n3 hdm hx1 hx2 j1 cn y6_a28 k6 hj6 hk6 hcn c_1 n_5 r_10 c_11 r_16 c_17) (hP.sub [0, 1, 2, 3, 4] rfl) (hD.sub [0, 1, 2, 3, 4] (by decide) rfl) hS (lv_sub hl [0, 1, 2, 3, 4, 5, 6] rfl)
          · refine lv_aload hx hb dX0_gather_34 (lv_at hl 6 rfl) ?_
            refine lv_iload hx hb dX0_gather_36 (lv_at hl 1 rfl) ?_
            refine lv_aload_n hx hb dX0_gather_38 rfl (lv_at hl 2 rfl) ?_
            refine lv_iload_n hx hb dX0_gather_39 rfl (lv_at hl 4 rfl) ?_
            refine lv_iload hx hb dX0_gather_40 (lv_at hl 0 rfl) ?_
            refine lv_iload_n hx hb dX0_gather_42 rfl (lv_at hl 5 rfl) ?_
            refine eRi (va_runV (As := [.int (nI x2), .int (nI j1), .int n3]) (rest := [.int (nI cn), .ref (a 28)]) ⟨hx, hb, hml, hown, hts⟩ (c_X0_at l D cI cB cZ cJ tx a dm d0 d1 x2 j1 n3 (lf_X0_gather_d3_19 a dm d0 d1 d2 d3 x1 x2 n3 hdm hx1 hx2 j1 cn y6_a28 k6 hj6 hk6 hcn c_1 n_5 r_10 c_11 r_16 c_17) (lf_X0_gather_d3_20 a dm d0 d1 d2 d3 x1 x2 n3 hdm hx1 hx2 j1 cn y6_a28 k6 hj6 hk6 hcn c_1 n_5 r_10 c_11 r_16 c_17) H.size) (zV hts k_955 v_X0_at ⟨Nat.le_of_ble_eq_true rfl, Nat.le_of_ble_eq_true rfl⟩) (pV (pxS hK hP hD [0, 1, 2] (by decide) rfl) hK hP 0 rfl rfl) rfl rfl hl.1 rfl (lv_room (Nat.le_of_ble_eq_true rfl)) dX0_gather_43 ⟨Nat.le_of_ble_eq_true rfl, Nat.le_of_ble_eq_true rfl⟩) hP hS hA (fun r_21 H locs wr_21 hP hS => ?_)
            refine lv_aload_n hx hb dX0_gather_46 rfl (lv_at hl 2 rfl) ?_
            refine lv_iload_n hx hb dX0_gather_47 rfl (lv_at hl 3 rfl) ?_
            refine lv_iload hx hb dX0_gather_48 (lv_at hl 0 rfl) ?_
            refine lv_iload_n hx hb dX0_gather_50 rfl (lv_at hl 5 rfl) ?_
            refine eRi (va_runV (As := [.int (nI x1), .int (nI j1), .int n3]) (rest := [.int r_21, .int (nI cn), .ref (a 28)]) ⟨hx, hb, hml, hown, hts⟩ (c_X0_at l D cI cB cZ cJ tx a dm d0 d1 x1 j1 n3 (lf_X0_gather_d3_22 a dm d0 d1 d2 d3 x1 x2 n3 hdm hx1 hx2 j1 cn y6_a28 k6 hj6 hk6 hcn c_1 n_5 r_10 c_11 r_16 c_17 r_21) (lf_X0_gather_d3_23 a dm d0 d1 d2 d3 x1 x2 n3 hdm hx1 hx2 j1 cn y6_a28 k6 hj6 hk6 hcn c_1 n_5 r_10 c_11 r_16 c_17 r_21) H.size) (zV hts k_955 v_X0_at ⟨Nat.le_of_ble_eq_true rfl, Nat.le_of_ble_eq_true rfl⟩) (pV (pxS hK hP hD [0, 1, 2] (by decide) rfl) hK hP 0 rfl rfl) rfl rfl hl.1 rfl (lv_room (Nat.le_of_ble_eq_true rfl)) dX0_gather_51 ⟨Nat.le_of_ble_eq_true rfl, Nat.le_of_ble_eq_true rfl⟩) hP hS hA (fun r_24 H locs wr_24 hP hS => ?_)
            refine lv_isub hx hb dX0_gather_54 ?_
            refine lv_topi (fun x_25 ex_25 => ?_)
            refine st_i hx hb hK hP hD hS 4 rfl (lf_X0_gather_d3_27 a dm d0 d1 d2 d3 x1 x2 n3 hdm hx1 hx2 j1 cn y6_a28 k6 hj6 hk6 hcn c_1 n_5 r_10 c_11 r_16 c_17 r_21 r_24 x_25 ex_25) dX0_gather_55 (fun f_26 H locs hP hD hS => ?_)
            have hP : va_P D vwCl [(a 6, .inr (0, [.ref (a 5), .ref (a 25), .ref (a 26), .ref (a 27), .ref (a 28), .ref (a 29), .int (nI dm)])), (a 25, .inl (cI, 1536, .inl d0)), (a 26, .inl (cI, 1536, .inl d1)), (a 27, .inl (cZ, 1536, .inl d2)), (a 28, .inl (cI, 384, .inl f_26))] H := hP
            have hD : va_D A [(a 6, .inr (0, [.ref (a 5), .ref (a 25), .ref (a 26), .ref (a 27), .ref (a 28), .ref (a 29), .int (nI dm)])), (a 25, .inl (cI, 1536, .inl d0)), (a 26, .inl (cI, 1536, .inl d1)), (a 27, .inl (cZ, 1536, .inl d2)), (a 28, .inl (cI, 384, .inl f_26))] := hD
            refine lv_iinc (v := nI (cn + 1)) (lv' := [(5, .int (nI (cn + 1))), (6, .int (nI j1)), (0, .ref (a 6)), (1, .int (nI x1)), (2, .int (nI x2)), (3, .int n3), (4, .ref (a 28))]) hx hb dX0_gather_56 hl (k := 1) rfl (nI_1 cn) (by decide) rfl (fun ls hl => ?_)
            refine lv_iinc (v := nI (j1 + 1)) (lv' := [(6, .int (nI (j1 + 1))), (5, .int (nI (cn + 1))), (0, .ref (a 6)), (1, .int (nI x1)), (2, .int (nI x2)), (3, .int n3), (4, .ref (a 28))]) hx hb dX0_gather_59 hl (k := 1) rfl (nI_1 j1) (by decide) rfl (fun ls hl => ?_)
            refine lv_goto (tgt := 6) hx hb dX0_gather_62 (by decide) ?_
            exact ih6 (j1 + 1) (cn + 1) f_26 H locs ls (by omega) (by omega) (lf_X0_gather_d3_28 a dm d0 d1 d2 d3 x1 x2 n3 hdm hx1 hx2 j1 cn y6_a28 k6 hj6 hk6 hcn c_1 n_5 r_10 c_11 r_16 c_17 r_21 r_24 x_25 ex_25 f_26) (hP.sub [0, 1, 2, 3, 4] rfl) (hD.sub [0, 1, 2, 3, 4] (by decide) rfl) hS (lv_sub hl [0, 1, 2, 3, 4, 5, 6] rfl)
  exact lp6 (384 + 1) 0 0 d3 H locs ls (by omega) (by omega) (lf_X0_gather_d3_29 a dm d0 d1 d2 d3 x1 x2 n3 hdm hx1 hx2) (hP.sub [0, 1, 2, 3, 4] rfl) (hD.sub [0, 1, 2, 3, 4] (by decide) rfl) hS (lv_sub hl [0, 1, 2, 3, 4, 5, 6] rfl)

theorem lf_X0_gather_d4_3 (a : Nat → Nat) (dm : Nat) (d0 : Nat → Int32) (d1 : Nat → Int32) (d2 : Nat → Int32) (d4 : Nat → Int32) (x1 : Nat) (x2 : Nat) (n3 : Int32) (hdm : dm ≤ 4) (hx1 : x1 < dm) (hx2 : x2 < dm) (j1 : Nat) (cn : Nat) (y6_a29 : Nat → Int32) (k6 : Nat) (hj6 : j1 ≤ 384) (hk6 : 384 < j1 + (k6 + 1)) (hcn : cn ≤ j1) (c_1 : 384 ≤ nI j1) : 384 ≤ j1 := by
  exact (nI_leI (a := 384) (b := j1) (by omega) (by omega)).mp c_1
theorem lf_X0_gather_d4_4 (a : Nat → Nat) (dm : Nat) (d0 : Nat → Int32) (d1 : Nat → Int32) (d2 : Nat → Int32) (d4 : Nat → Int32) (x1 : Nat) (x2 : Nat) (n3 : Int32) (hdm : dm ≤ 4) (hx1 : x1 < dm) (hx2 : x2 < dm) (j1 : Nat) (cn : Nat) (y6_a29 : Nat → Int32) (k6 : Nat) (hj6 : j1 ≤ 384) (hk6 : 384 < j1 + (k6 + 1)) (hcn : cn ≤ j1) (c_1 : 384 ≤ nI j1) (n_2 : 384 ≤ j1) : ∃ m : Nat, m ≤ 384 ∧ (nI cn : Int32) = nI m := by
  exact ⟨_, by omega, rfl⟩
theorem lf_X0_gather_d4_6 (a : Nat → Nat) (dm : Nat) (d0 : Nat → Int32) (d1 : Nat → Int32) (d2 : Nat → Int32) (d4 : Nat → Int32) (x1 : Nat) (x2 : Nat) (n3 : Int32) (hdm : dm ≤ 4) (hx1 : x1 < dm) (hx2 : x2 < dm) (j1 : Nat) (cn : Nat) (y6_a29 : Nat → Int32) (k6 : Nat) (hj6 : j1 ≤ 384) (hk6 : 384 < j1 + (k6 + 1)) (hcn : cn ≤ j1) (c_1 : ¬ 384 ≤ nI j1) : j1 < 384 := by
  exact Nat.lt_of_not_le (fun q => c_1 ((nI_leI (a := 384) (b := j1) (by omega) (by omega)).mpr q))
theorem lf_X0_gather_d4_7 (a : Nat → Nat) (dm : Nat) (d0 : Nat → Int32) (d1 : Nat → Int32) (d2 : Nat → Int32) (d4 : Nat → Int32) (x1 : Nat) (x2 : Nat) (n3 : Int32) (hdm : dm ≤ 4) (hx1 : x1 < dm) (hx2 : x2 < dm) (j1 : Nat) (cn : Nat) (y6_a29 : Nat → Int32) (k6 : Nat) (hj6 : j1 ≤ 384) (hk6 : 384 < j1 + (k6 + 1)) (hcn : cn ≤ j1) (c_1 : ¬ 384 ≤ nI j1) (n_5 : j1 < 384) : dm ≤ 4 := by
  first | assumption | omega | decide
theorem lf_X0_gather_d4_8 (a : Nat → Nat) (dm : Nat) (d0 : Nat → Int32) (d1 : Nat → Int32) (d2 : Nat → Int32) (d4 : Nat → Int32) (x1 : Nat) (x2 : Nat) (n3 : Int32) (hdm : dm ≤ 4) (hx1 : x1 < dm) (hx2 : x2 < dm) (j1 : Nat) (cn : Nat) (y6_a29 : Nat → Int32) (k6 : Nat) (hj6 : j1 ≤ 384) (hk6 : 384 < j1 + (k6 + 1)) (hcn : cn ≤ j1) (c_1 : ¬ 384 ≤ nI j1) (n_5 : j1 < 384) : x1 < dm := by
  first | assumption | omega | decide
theorem lf_X0_gather_d4_9 (a : Nat → Nat) (dm : Nat) (d0 : Nat → Int32) (d1 : Nat → Int32) (d2 : Nat → Int32) (d4 : Nat → Int32) (x1 : Nat) (x2 : Nat) (n3 : Int32) (hdm : dm ≤ 4) (hx1 : x1 < dm) (hx2 : x2 < dm) (j1 : Nat) (cn : Nat) (y6_a29 : Nat → Int32) (k6 : Nat) (hj6 : j1 ≤ 384) (hk6 : 384 < j1 + (k6 + 1)) (hcn : cn ≤ j1) (c_1 : ¬ 384 ≤ nI j1) (n_5 : j1 < 384) : j1 < 384 := by
  first | assumption | omega | decide
theorem lf_X0_gather_d4_12 (a : Nat → Nat) (dm : Nat) (d0 : Nat → Int32) (d1 : Nat → Int32) (d2 : Nat → Int32) (d4 : Nat → Int32) (x1 : Nat) (x2 : Nat) (n3 : Int32) (hdm : dm ≤ 4) (hx1 : x1 < dm) (hx2 : x2 < dm) (j1 : Nat) (cn : Nat) (y6_a29 : Nat → Int32) (k6 : Nat) (hj6 : j1 ≤ 384) (hk6 : 384 < j1 + (k6 + 1)) (hcn : cn ≤ j1) (c_1 : ¬ 384 ≤ nI j1) (n_5 : j1 < 384) (r_10 : Int32) (c_11 : r_10 = 0) : cn ≤ (j1 + 1) := by
  first | assumption | omega
theorem lf_X0_gather_d4_13 (a : Nat → Nat) (dm : Nat) (d0 : Nat → Int32) (d1 : Nat → Int32) (d2 : Nat → Int32) (d4 : Nat → Int32) (x1 : Nat) (x2 : Nat) (n3 : Int32) (hdm : dm ≤ 4) (hx1 : x1 < dm) (hx2 : x2 < dm) (j1 : Nat) (cn : Nat) (y6_a29 : Nat → Int32) (k6 : Nat) (hj6 : j1 ≤ 384) (hk6 : 384 < j1 + (k6 + 1)) (hcn : cn ≤ j1) (c_1 : ¬ 384 ≤ nI j1) (n_5 : j1 < 384) (r_10 : Int32) (c_11 : ¬ r_10 = 0) : dm ≤ 4 := by
  first | assumption | omega | decide
theorem lf_X0_gather_d4_14 (a : Nat → Nat) (dm : Nat) (d0 : Nat → Int32) (d1 : Nat → Int32) (d2 : Nat → Int32) (d4 : Nat → Int32) (x1 : Nat) (x2 : Nat) (n3 : Int32) (hdm : dm ≤ 4) (hx1 : x1 < dm) (hx2 : x2 < dm) (j1 : Nat) (cn : Nat) (y6_a29 : Nat → Int32) (k6 : Nat) (hj6 : j1 ≤ 384) (hk6 : 384 < j1 + (k6 + 1)) (hcn : cn ≤ j1) (c_1 : ¬ 384 ≤ nI j1) (n_5 : j1 < 384) (r_10 : Int32) (c_11 : ¬ r_10 = 0) : x2 < dm := by
  first | assumption | omega | decide
theorem lf_X0_gather_d4_15 (a : Nat → Nat) (dm : Nat) (d0 : Nat → Int32) (d1 : Nat → Int32) (d2 : Nat → Int32) (d4 : Nat → Int32) (x1 : Nat) (x2 : Nat) (n3 : Int32) (hdm : dm ≤ 4) (hx1 : x1 < dm) (hx2 : x2 < dm) (j1 : Nat) (cn : Nat) (y6_a29 : Nat → Int32) (k6 : Nat) (hj6 : j1 ≤ 384) (hk6 : 384 < j1 + (k6 + 1)) (hcn : cn ≤ j1) (c_1 : ¬ 384 ≤ nI j1) (n_5 : j1 < 384) (r_10 : Int32) (c_11 : ¬ r_10 = 0) : j1 < 384 := by
  first | assumption | omega | decide
theorem lf_X0_gather_d4_18 (a : Nat → Nat) (dm : Nat) (d0 : Nat → Int32) (d1 : Nat → Int32) (d2 : Nat → Int32) (d4 : Nat → Int32) (x1 : Nat) (x2 : Nat) (n3 : Int32) (hdm : dm ≤ 4) (hx1 : x1 < dm) (hx2 : x2 < dm) (j1 : Nat) (cn : Nat) (y6_a29 : Nat → Int32) (k6 : Nat) (hj6 : j1 ≤ 384) (hk6 : 384 < j1 + (k6 + 1)) (hcn : cn ≤ j1) (c_1 : ¬ 384 ≤ nI j1) (n_5 : j1 < 384) (r_10 : Int32) (c_11 : ¬ r_10 = 0) (r_16 : Int32) (c_17 : r_16 = 0) : cn ≤ (j1 + 1) := by
  first | assumption | omega
theorem lf_X0_gather_d4_19 (a : Nat → Nat) (dm : Nat) (d0 : Nat → Int32) (d1 : Nat → Int32) (d2 : Nat → Int32) (d4 : Nat → Int32) (x1 : Nat) (x2 : Nat) (n3 : Int32) (hdm : dm ≤ 4) (hx1 : x1 < dm) (hx2 : x2 < dm) (j1 : Nat) (cn : Nat) (y6_a29 : Nat → Int32) (k6 : Nat) (hj6 : j1 ≤ 384) (hk6 : 384 < j1 + (k6 + 1)) (hcn : cn ≤ j1) (c_1 : ¬ 384 ≤ nI j1) (n_5 : j1 < 384) (r_10 : Int32) (c_11 : ¬ r_10 = 0) (r_16 : Int32) (c_17 : ¬ r_16 = 0) : x2 < 4 := by
  first | assumption | omega | decide
theorem lf_X0_gather_d4_20 (a : Nat → Nat) (dm : Nat) (d0 : Nat → Int32) (d1 : Nat → Int32) (d2 : Nat → Int32) (d4 : Nat → Int32) (x1 : Nat) (x2 : Nat) (n3 : Int32) (hdm : dm ≤ 4) (hx1 : x1 < dm) (hx2 : x2 < dm) (j1 : Nat) (cn : Nat) (y6_a29 : Nat → Int32) (k6 : Nat) (hj6 : j1 ≤ 384) (hk6 : 384 < j1 + (k6 + 1)) (hcn : cn ≤ j1) (c_1 : ¬ 384 ≤ nI j1) (n_5 : j1 < 384) (r_10 : Int32) (c_11 : ¬ r_10 = 0) (r_16 : Int32) (c_17 : ¬ r_16 = 0) : j1 < 384 := by
  first | assumption | omega | decide
theorem lf_X0_gather_d4_22 (a : Nat → Nat) (dm : Nat) (d0 : Nat → Int32) (d1 : Nat → Int32) (d2 : Nat → Int32) (d4 : Nat → Int32) (x1 : Nat) (x2 : Nat) (n3 : Int32) (hdm : dm ≤ 4) (hx1 : x1 < dm) (hx2 : x2 < dm) (j1 : Nat) (cn : Nat) (y6_a29 : Nat → Int32) (k6 : Nat) (hj6 : j1 ≤ 384) (hk6 : 384 < j1 + (k6 + 1)) (hcn : cn ≤ j1) (c_1 : ¬ 384 ≤ nI j1) (n_5 : j1 < 384) (r_10 : Int32) (c_11 : ¬ r_10 = 0) (r_16 : Int32) (c_17 : ¬ r_16 = 0) (r_21 : Int32) : x1 < 4 := by
  first | assumption | omega | decide
theorem lf_X0_gather_d4_23 (a : Nat → Nat) (dm : Nat) (d0 : Nat → Int32) (d1 : Nat → Int32) (d2 : Nat → Int32) (d4 : Nat → Int32) (x1 : Nat) (x2 : Nat) (n3 : Int32) (hdm : dm ≤ 4) (hx1 : x1 < dm) (hx2 : x2 < dm) (j1 : Nat) (cn : Nat) (y6_a29 : Nat → Int32) (k6 : Nat) (hj6 : j1 ≤ 384) (hk6 : 384 < j1 + (k6 + 1)) (hcn : cn ≤ j1) (c_1 : ¬ 384 ≤ nI j1) (n_5 : j1 < 384) (r_10 : Int32) (c_11 : ¬ r_10 = 0) (r_16 : Int32) (c_17 : ¬ r_16 = 0) (r_21 : Int32) : j1 < 384 := by
  first | assumption | omega | decide
theorem lf_X0_gather_d4_27 (a : Nat → Nat) (dm : Nat) (d0 : Nat → Int32) (d1 : Nat → Int32) (d2 : Nat → Int32) (d4 : Nat → Int32) (x1 : Nat) (x2 : Nat) (n3 : Int32) (hdm : dm ≤ 4) (hx1 : x1 < dm) (hx2 : x2 < dm) (j1 : Nat) (cn : Nat) (y6_a29 : Nat → Int32) (k6 : Nat) (hj6 : j1 ≤ 384) (hk6 : 384 < j1 + (k6 + 1)) (hcn : cn ≤ j1) (c_1 : ¬ 384 ≤ nI j1) (n_5 : j1 < 384) (r_10 : Int32) (c_11 : ¬ r_10 = 0) (r_16 : Int32) (c_17 : ¬ r_16 = 0) (r_21 : Int32) (r_24 : Int32) (x_25 : Int32) (ex_25 : x_25 = r_21 - r_24) : vp_in (nI cn) 384 := by
  first | exact vp_in_nI (by omega) (by decide) | (unfold vp_in; decide)
theorem lf_X0_gather_d4_28 (a : Nat → Nat) (dm : Nat) (d0 : Nat → Int32) (d1 : Nat → Int32) (d2 : Nat → Int32) (d4 : Nat → Int32) (x1 : Nat) (x2 : Nat) (n3 : Int32) (hdm : dm ≤ 4) (hx1 : x1 < dm) (hx2 : x2 < dm) (j1 : Nat) (cn : Nat) (y6_a29 : Nat → Int32) (k6 : Nat) (hj6 : j1 ≤ 384) (hk6 : 384 < j1 + (k6 + 1)) (hcn : cn ≤ j1) (c_1 : ¬ 384 ≤ nI j1) (n_5 : j1 < 384) (r_10 : Int32) (c_11 : ¬ r_10 = 0) (r_16 : Int32) (c_17 : ¬ r_16 = 0) (r_21 : Int32) (r_24 : Int32) (x_25 : Int32) (ex_25 : x_25 = r_21 - r_24) (f_26 : Nat → Int32) : ((cn + 1)) ≤ (j1 + 1) := by
  first | assumption | omega
theorem lf_X0_gather_d4_29 (a : Nat → Nat) (dm : Nat) (d0 : Nat → Int32) (d1 : Nat → Int32) (d2 : Nat → Int32) (d4 : Nat → Int32) (x1 : Nat) (x2 : Nat) (n3 : Int32) (hdm : dm ≤ 4) (hx1 : x1 < dm) (hx2 : x2 < dm) : 0 ≤ 0 := by
  first | assumption | omega
set_option maxHeartbeats 4000000 in
set_option maxRecDepth 100000 in
theorem c_X0_gather_d4 (l : Launch) (D : va_G) (cI cB cZ cJ : ClassId) (tx : List (ClassId × FieldType)) (a : Nat → Nat) (dm : Nat) (d0 : Nat → Int32) (d1 : Nat → Int32) (d2 : Nat → Int32) (d4 : Nat → Int32) (x1 : Nat) (x2 : Nat) (n3 : Int32) (hdm : dm ≤ 4) (hx1 : x1 < dm) (hx2 : x2 < dm) : WrI l D cI cB cZ cJ tx yX0_gather cX0_gather 7 (some .int) 3 0 0 [.ref (a 6), .int (nI x1), .int (nI x2), .int n3, .ref (a 29)] [(a 6, .inr (0, [.ref (a 5), .ref (a 25), .ref (a 26), .ref (a 27), .ref (a 28), .ref (a 29), .int (nI dm)])), (a 25, .inl (cI, 1536, .inl d0)), (a 26, .inl (cI, 1536, .inl d1)), (a 27, .inl (cZ, 1536, .inl d2)), (a 29, .inl (cI, 384, .inl d4))] (fun (r : Int32) (v : (Nat → Int32)) => ∃ m : Nat, m ≤ 384 ∧ r = nI m) (fun v => [(a 6, .inr (0, [.ref (a 5), .ref (a 25), .ref (a 26), .ref (a 27), .ref (a 28), .ref (a 29), .int (nI dm)])), (a 25, .inl (cI, 1536, .inl d0)), (a 26, .inl (cI, 1536, .inl d1)), (a 27, .inl (cZ, 1536, .inl d2)), (a 29, .inl (cI, 384, .inl v))]) := by
  refine wri_of2 (by decide) (Nat.le_of_ble_eq_true rfl) ?_
  intro p e s m below meth c A ls H locs hC hK hP hD hA hS hl
  obtain ⟨hx, hb, hr, hml, hown, hts, hlocks, hin⟩ := hC
  have hown : s.vm.findClass RX0 = some m.cls := hown
  have hl : lv_has ls 7 [(0, .ref (a 6)), (1, .int (nI x1)), (2, .int (nI x2)), (3, .int n3), (4, .ref (a 29))] := hl
  refine lv_iconst (v := 0) hx hb dX0_gather_0 (by decide) ?_
  refine lv_istore (lv' := [(5, .int 0), (0, .ref (a 6)), (1, .int (nI x1)), (2, .int (nI x2)), (3, .int n3), (4, .ref (a 29))]) hx hb dX0_gather_1 hl (by decide) rfl (fun ls hl => ?_)
  refine lv_iconst (v := 0) hx hb dX0_gather_3 (by decide) ?_
  refine lv_istore (lv' := [(6, .int 0), (5, .int 0), (0, .ref (a 6)), (1, .int (nI x1)), (2, .int (nI x2)), (3, .int n3), (4, .ref (a 29))]) hx hb dX0_gather_4 hl (by decide) rfl (fun ls hl => ?_)
  have lp6 : ∀ (k6 : Nat) (j1 : Nat) (cn : Nat) (y6_a29 : Nat → Int32) (H : Heap) (locs : List Loc) (ls : Array Slot), j1 ≤ 384 → 384 < j1 + k6 → (cn ≤ j1) → va_P D vwCl [(a 6, .inr (0, [.ref (a 5), .ref (a 25), .ref (a 26), .ref (a 27), .ref (a 28), .ref (a 29), .int (nI dm)])), (a 25, .inl (cI, 1536, .inl d0)), (a 26, .inl (cI, 1536, .inl d1)), (a 27, .inl (cZ, 1536, .inl d2)), (a 29, .inl (cI, 384, .inl y6_a29))] H → va_D A [(a 6, .inr (0, [.ref (a 5), .ref (a 25), .ref (a 26), .ref (a 27), .ref (a 28), .ref (a 29), .int (nI dm)])), (a 25, .inl (cI, 1536, .inl d0)), (a 26, .inl (cI, 1536, .inl d1)), (a 27, .inl (cZ, 1536, .inl d2)), (a 29, .inl (cI, 384, .inl y6_a29))] → va_S A s.heap H locs → lv_has ls 7 [(6, .int (nI j1)), (5, .int (nI cn)), (0, .ref (a 6)), (1, .int (nI x1)), (2, .int (nI x2)), (3, .int n3), (4, .ref (a 29))] → W p l e (rmX 3 0 0) s m ([.ref (a 6), .int (nI x1), .int (nI x2), .int n3, .ref (a 29)] : List Value).toArray below meth c H locs 0 0 (MQ below (va_Qi (fun (r : Int32) (v : (Nat → Int32)) => ∃ m : Nat, m ≤ 384 ∧ r = nI m) (fun u => BX D A ((fun v => [(a 6, .inr (0, [.ref (a 5), .ref (a 25), .ref (a 26), .ref (a 27), .ref (a 28), .ref (a 29), .int (nI dm)])), (a 25, .inl (cI, 1536, .inl d0)), (a 26, .inl (cI, 1536, .inl d1)), (a 27, .inl (cZ, 1536, .inl d2)), (a 29, .inl (cI, 384, .inl v))]) u)) A) ([.ref (a 6), .int (nI x1), .int (nI x2), .int n3, .ref (a 29)] : List Value).toArray s 0 0 A) (F0 m 6 ls []) := by
    intro k6
    induction k6 with
    | zero =>
      intro j1 cn y6_a29 H locs ls hj6 hk6 hcn hP hD hS hl
      exact absurd hk6 (by omega)
    | succ k6 ih6 =>
      intro j1 cn y6_a29 H locs ls hj6 hk6 hcn hP hD hS hl
      refine lv_iload hx hb dX0_gather_6 (lv_at hl 0 rfl) ?_
      refine lv_sipush (v := 384) hx hb dX0_gather_8 (by decide) ?_
      refine lv_icmp_ge (tgt := 65) hx hb dX0_gather_11 (by decide) (fun c_1 => ?_) (fun c_1 => ?_)
      · have n_2 : 384 ≤ j1 := (lf_X0_gather_d4_3 a dm d0 d1 d2 d4 x1 x2 n3 hdm hx1 hx2 j1 cn y6_a29 k6 hj6 hk6 hcn c_1)
        refine lv_iload hx hb dX0_gather_65 (lv_at hl 1 rfl) ?_
        exact W.iret (v := nI cn) hx hb hr (fun tt9 ht hW => ⟨⟨(nI cn : Int32), ((y6_a29 : Nat → Int32)), rfl, (lf_X0_gather_d4_4 a dm d0 d1 d2 d4 x1 x2 n3 hdm hx1 hx2 j1 cn y6_a29 k6 hj6 hk6 hcn c_1 n_2), ⟨by rw [ht]; exact hP, hD⟩⟩, hS.F ht⟩) hS.2.2 dX0_gather_67 hlocks
      · have n_5 : j1 < 384 := (lf_X0_gather_d4_6 a dm d0 d1 d2 d4 x1 x2 n3 hdm hx1 hx2 j1 cn y6_a29 k6 hj6 hk6 hcn c_1)
        refine lv_aload_n hx hb dX0_gather_14 rfl (lv_at hl 2 rfl) ?_
        refine lv_iload_n hx hb dX0_gather_15 rfl (lv_at hl 3 rfl) ?_
        refine lv_iload hx hb dX0_gather_16 (lv_at hl 0 rfl) ?_
        refine eRi (va_runV (As := [.int (nI x1), .int (nI j1)]) (rest := []) ⟨hx, hb, hml, hown, hts⟩ (c_X0_hasMark_g l D cI cB cZ cJ tx a dm d2 x1 j1 (lf_X0_gather_d4_7 a dm d0 d1 d2 d4 x1 x2 n3 hdm hx1 hx2 j1 cn y6_a29 k6 hj6 hk6 hcn c_1 n_5) (lf_X0_gather_d4_8 a dm d0 d1 d2 d4 x1 x2 n3 hdm hx1 hx2 j1 cn y6_a29 k6 hj6 hk6 hcn c_1 n_5) (lf_X0_gather_d4_9 a dm d0 d1 d2 d4 x1 x2 n3 hdm hx1 hx2 j1 cn y6_a29 k6 hj6 hk6 hcn c_1 n_5) H.size) (zV hts k_924 v_X0_hasMark ⟨Nat.le_of_ble_eq_true rfl, Nat.le_of_ble_eq_true rfl⟩) (pV (pxS hK hP hD [0, 3] (by decide) rfl) hK hP 0 rfl rfl) rfl rfl hl.1 rfl (lv_room (Nat.le_of_ble_eq_true rfl)) dX0_gather_18 ⟨Nat.le_of_ble_eq_true rfl, Nat.le_of_ble_eq_true rfl⟩) hP hS hA (fun r_10 H locs wr_10 hP hS => ?_)
        refine lv_if_eq (tgt := 59) hx hb dX0_gather_21 (by decide) (fun c_11 => ?_) (fun c_11 => ?_)
        · refine lv_iinc (v := nI (j1 + 1)) (lv' := [(6, .int (nI (j1 + 1))), (5, .int (nI cn)), (0, .ref (a 6)), (1, .int (nI x1)), (2, .int (nI x2)), (3, .int n3), (4, .ref (a 29))]) hx hb dX0_gather_59 hl (k := 0) rfl (nI_1 j1) (by decide) rfl (fun ls hl => ?_)
          refine lv_goto (tgt := 6) hx hb dX0_gather_62 (by decide) ?_
          exact ih6 (j1 + 1) cn y6_a29 H locs ls (by omega) (by omega) (lf_X0_gather_d4_12 a dm d0 d1 d2 d4 x1 x2 n3 hdm hx1 hx2 j1 cn y6_a29 k6 hj6 hk6 hcn c_1 n_5 r_10 c_11) (hP.sub [0, 1, 2, 3, 4] rfl) (hD.sub [0, 1, 2, 3, 4] (by decide) rfl) hS (lv_sub hl [0, 1, 2, 3, 4, 5, 6] rfl)
        · refine lv_aload_n hx hb dX0_gather_24 rfl (lv_at hl 2 rfl) ?_
          refine lv_iload_n hx hb dX0_gather_25 rfl (lv_at hl 4 rfl) ?_
          refine lv_iload hx hb dX0_gather_26 (lv_at hl 0 rfl) ?_
          refine eRi (va_runV (As := [.int (nI x2), .int (nI j1)]) (rest := []) ⟨hx, hb, hml, hown, hts⟩ (c_X0_hasMark_g l D cI cB cZ cJ tx a dm d2 x2 j1 (lf_X0_gather_d4_13 a dm d0 d1 d2 d4 x1 x2 n3 hdm hx1 hx2 j1 cn y6_a29 k6 hj6 hk6 hcn c_1 n_5 r_10 c_11) (lf_X0_gather_d4_14 a dm d0 d1 d2 d4 x1 x2 n3 hdm hx1 hx2 j1 cn y6_a29 k6 hj6 hk6 hcn c_1 n_5 r_10 c_11) (lf_X0_gather_d4_15 a dm d0 d1 d2 d4 x1 x2 n3 hdm hx1 hx2 j1 cn y6_a29 k6 hj6 hk6 hcn c_1 n_5 r_10 c_11) H.size) (zV hts k_924 v_X0_hasMark ⟨Nat.le_of_ble_eq_true rfl, Nat.le_of_ble_eq_true rfl⟩) (pV (pxS hK hP hD [0, 3] (by decide) rfl) hK hP 0 rfl rfl) rfl rfl hl.1 rfl (lv_room (Nat.le_of_ble_eq_true rfl)) dX0_gather_28 ⟨Nat.le_of_ble_eq_true rfl, Nat.le_of_ble_eq_true rfl⟩) hP hS hA (fun r_16 H locs wr_16 hP hS => ?_)
          refine lv_if_eq (tgt := 59) hx hb dX0_gather_31 (by decide) (fun c_17 => ?_) (fun c_17 => ?_)
          · refine lv_iinc (v := nI (j1 + 1)) (lv' := [(6, .int (nI (j1 + 1))), (5, .int (nI cn)), (0, .ref (a 6)), (1, .int (nI x1)), (2, .int (nI x2)), (3, .int n3), (4, .ref (a 29))]) hx hb dX0_gather_59 hl (k := 0) rfl (nI_1 j1) (by decide) rfl (fun ls hl => ?_)
            refine lv_goto (tgt := 6) hx hb dX0_gather_62 (by decide) ?_
            exact ih6 (j1 + 1) cn y6_a29 H locs ls (by omega) (by omega) (lf_X0_gather_d4_18 a dm d0 d1 d2 d4 x1 x2 n3 hdm hx1 hx2 j1 cn y6_a29 k6 hj6 hk6 hcn c_1 n_5 r_10 c_11 r_16 c_17) (hP.sub [0, 1, 2, 3, 4] rfl) (hD.sub [0, 1, 2, 3, 4] (by decide) rfl) hS (lv_sub hl [0, 1, 2, 3, 4, 5, 6] rfl)
          · refine lv_aload hx hb dX0_gather_34 (lv_at hl 6 rfl) ?_
            refine lv_iload hx hb dX0_gather_36 (lv_at hl 1 rfl) ?_
            refine lv_aload_n hx hb dX0_gather_38 rfl (lv_at hl 2 rfl) ?_
            refine lv_iload_n hx hb dX0_gather_39 rfl (lv_at hl 4 rfl) ?_
            refine lv_iload hx hb dX0_gather_40 (lv_at hl 0 rfl) ?_
            refine lv_iload_n hx hb dX0_gather_42 rfl (lv_at hl 5 rfl) ?_
            refine eRi (va_runV (As := [.int (nI x2), .int (nI j1), .int n3]) (rest := [.int (nI cn), .ref (a 29)]) ⟨hx, hb, hml, hown, hts⟩ (c_X0_at l D cI cB cZ cJ tx a dm d0 d1 x2 j1 n3 (lf_X0_gather_d4_19 a dm d0 d1 d2 d4 x1 x2 n3 hdm hx1 hx2 j1 cn y6_a29 k6 hj6 hk6 hcn c_1 n_5 r_10 c_11 r_16 c_17) (lf_X0_gather_d4_20 a dm d0 d1 d2 d4 x1 x2 n3 hdm hx1 hx2 j1 cn y6_a29 k6 hj6 hk6 hcn c_1 n_5 r_10 c_11 r_16 c_17) H.size) (zV hts k_955 v_X0_at ⟨Nat.le_of_ble_eq_true rfl, Nat.le_of_ble_eq_true rfl⟩) (pV (pxS hK hP hD [0, 1, 2] (by decide) rfl) hK hP 0 rfl rfl) rfl rfl hl.1 rfl (lv_room (Nat.le_of_ble_eq_true rfl)) dX0_gather_43 ⟨Nat.le_of_ble_eq_true rfl, Nat.le_of_ble_eq_true rfl⟩) hP hS hA (fun r_21 H locs wr_21 hP hS => ?_)
            refine lv_aload_n hx hb dX0_gather_46 rfl (lv_at hl 2 rfl) ?_
            refine lv_iload_n hx hb dX0_gather_47 rfl (lv_at hl 3 rfl) ?_
            refine lv_iload hx hb dX0_gather_48 (lv_at hl 0 rfl) ?_
            refine lv_iload_n hx hb dX0_gather_50 rfl (lv_at hl 5 rfl) ?_
            refine eRi (va_runV (As := [.int (nI x1), .int (nI j1), .int n3]) (rest := [.int r_21, .int (nI cn), .ref (a 29)]) ⟨hx, hb, hml, hown, hts⟩ (c_X0_at l D cI cB cZ cJ tx a dm d0 d1 x1 j1 n3 (lf_X0_gather_d4_22 a dm d0 d1 d2 d4 x1 x2 n3 hdm hx1 hx2 j1 cn y6_a29 k6 hj6 hk6 hcn c_1 n_5 r_10 c_11 r_16 c_17 r_21) (lf_X0_gather_d4_23 a dm d0 d1 d2 d4 x1 x2 n3 hdm hx1 hx2 j1 cn y6_a29 k6 hj6 hk6 hcn c_1 n_5 r_10 c_11 r_16 c_17 r_21) H.size) (zV hts k_955 v_X0_at ⟨Nat.le_of_ble_eq_true rfl, Nat.le_of_ble_eq_true rfl⟩) (pV (pxS hK hP hD [0, 1, 2] (by decide) rfl) hK hP 0 rfl rfl) rfl rfl hl.1 rfl (lv_room (Nat.le_of_ble_eq_true rfl)) dX0_gather_51 ⟨Nat.le_of_ble_eq_true rfl, Nat.le_of_ble_eq_true rfl⟩) hP hS hA (fun r_24 H locs wr_24 hP hS => ?_)
            refine lv_isub hx hb dX0_gather_54 ?_
            refine lv_topi (fun x_25 ex_25 => ?_)
            refine st_i hx hb hK hP hD hS 4 rfl (lf_X0_gather_d4_27 a dm d0 d1 d2 d4 x1 x2 n3 hdm hx1 hx2 j1 cn y6_a29 k6 hj6 hk6 hcn c_1 n_5 r_10 c_11 r_16 c_17 r_21 r_24 x_25 ex_25) dX0_gather_55 (fun f_26 H locs hP hD hS => ?_)
            have hP : va_P D vwCl [(a 6, .inr (0, [.ref (a 5), .ref (a 25), .ref (a 26), .ref (a 27), .ref (a 28), .ref (a 29), .int (nI dm)])), (a 25, .inl (cI, 1536, .inl d0)), (a 26, .inl (cI, 1536, .inl d1)), (a 27, .inl (cZ, 1536, .inl d2)), (a 29, .inl (cI, 384, .inl f_26))] H := hP
            have hD : va_D A [(a 6, .inr (0, [.ref (a 5), .ref (a 25), .ref (a 26), .ref (a 27), .ref (a 28), .ref (a 29), .int (nI dm)])), (a 25, .inl (cI, 1536, .inl d0)), (a 26, .inl (cI, 1536, .inl d1)), (a 27, .inl (cZ, 1536, .inl d2)), (a 29, .inl (cI, 384, .inl f_26))] := hD
            refine lv_iinc (v := nI (cn + 1)) (lv' := [(5, .int (nI (cn + 1))), (6, .int (nI j1)), (0, .ref (a 6)), (1, .int (nI x1)), (2, .int (nI x2)), (3, .int n3), (4, .ref (a 29))]) hx hb dX0_gather_56 hl (k := 1) rfl (nI_1 cn) (by decide) rfl (fun ls hl => ?_)
            refine lv_iinc (v := nI (j1 + 1)) (lv' := [(6, .int (nI (j1 + 1))), (5, .int (nI (cn + 1))), (0, .ref (a 6)), (1, .int (nI x1)), (2, .int (nI x2)), (3, .int n3), (4, .ref (a 29))]) hx hb dX0_gather_59 hl (k := 1) rfl (nI_1 j1) (by decide) rfl (fun ls hl => ?_)
            refine lv_goto (tgt := 6) hx hb dX0_gather_62 (by decide) ?_
            exact ih6 (j1 + 1) (cn + 1) f_26 H locs ls (by omega) (by omega) (lf_X0_gather_d4_28 a dm d0 d1 d2 d4 x1 x2 n3 hdm hx1 hx2 j1 cn y6_a29 k6 hj6 hk6 hcn c_1 n_5 r_10 c_11 r_16 c_17 r_21 r_24 x_25 ex_25 f_26) (hP.sub [0, 1, 2, 3, 4] rfl) (hD.sub [0, 1, 2, 3, 4] (by decide) rfl) hS (lv_sub hl [0, 1, 2, 3, 4, 5, 6] rfl)
  exact lp6 (384 + 1) 0 0 d4 H locs ls (by omega) (by omega) (lf_X0_gather_d4_29 a dm d0 d1 d2 d4 x1 x2 n3 hdm hx1 hx2) (hP.sub [0, 1, 2, 3, 4] rfl) (hD.sub [0, 1, 2, 3, 4] (by decide) rfl) hS (lv_sub hl [0, 1, 2, 3, 4, 5, 6] rfl)

theorem lf_X0_marksOf_3 (a : Nat → Nat) (dm : Nat) (d2 : Nat → Int32) (x1 : Nat) (hdm : dm ≤ 4) (hx1 : x1 < dm) (j1 : Nat) (w1 : Int32) (k4 : Nat) (hj4 : j1 ≤ 384) (hk4 : 384 < j1 + (k4 + 1)) (c_1 : 384 ≤ nI j1) : 384 ≤ j1 := by
  exact (nI_leI (a := 384) (b := j1) (by omega) (by omega)).mp c_1
theorem lf_X0_marksOf_5 (a : Nat → Nat) (dm : Nat) (d2 : Nat → Int32) (x1 : Nat) (hdm : dm ≤ 4) (hx1 : x1 < dm) (j1 : Nat) (w1 : Int32) (k4 : Nat) (hj4 : j1 ≤ 384) (hk4 : 384 < j1 + (k4 + 1)) (c_1 : ¬ 384 ≤ nI j1) : j1 < 384 := by
  exact Nat.lt_of_not_le (fun q => c_1 ((nI_leI (a := 384) (b := j1) (by omega) (by omega)).mpr q))
theorem lf_X0_marksOf_6 (a : Nat → Nat) (dm : Nat) (d2 : Nat → Int32) (x1 : Nat) (hdm : dm ≤ 4) (hx1 : x1 < dm) (j1 : Nat) (w1 : Int32) (k4 : Nat) (hj4 : j1 ≤ 384) (hk4 : 384 < j1 + (k4 + 1)) (c_1 : ¬ 384 ≤ nI j1) (n_4 : j1 < 384) : dm ≤ 4 := by
  first | assumption | omega | decide
theorem lf_X0_marksOf_7 (a : Nat → Nat) (dm : Nat) (d2 : Nat → Int32) (x1 : Nat) (hdm : dm ≤ 4) (hx1 : x1 < dm) (j1 : Nat) (w1 : Int32) (k4 : Nat) (hj4 : j1 ≤ 384) (hk4 : 384 < j1 + (k4 + 1)) (c_1 : ¬ 384 ≤ nI j1) (n_4 : j1 < 384) : x1 < dm := by
  first | assumption | omega | decide
theorem lf_X0_marksOf_8 (a : Nat → Nat) (dm : Nat) (d2 : Nat → Int32) (x1 : Nat) (hdm : dm ≤ 4) (hx1 : x1 < dm) (j1 : Nat) (w1 : Int32) (k4 : Nat) (hj4 : j1 ≤ 384) (hk4 : 384 < j1 + (k4 + 1)) (c_1 : ¬ 384 ≤ nI j1) (n_4 : j1 < 384) : j1 < 384 := by
  first | assumption | omega | decide
set_option maxHeartbeats 4000000 in
set_option maxRecDepth 100000 in
theorem c_X0_marksOf (l : Launch) (D : va_G) (cI cB cZ cJ : ClassId) (tx : List (ClassId × FieldType)) (a : Nat → Nat) (dm : Nat) (d2 : Nat → Int32) (x1 : Nat) (hdm : dm ≤ 4) (hx1 : x1 < dm) : RdI l D cI cB cZ cJ tx yX0_marksOf cX0_marksOf 4 (some .int) 3 [.ref (a 6), .int (nI x1)] [(a 6, .inr (0, [.ref (a 5), .ref (a 25), .ref (a 26), .ref (a 27), .ref (a 28), .ref (a 29), .int (nI dm)])), (a 27, .inl (cZ, 1536, .inl d2))] (fun r => True) := by
  refine rdi_of2 (by decide) (Nat.le_of_ble_eq_true rfl) ?_
  intro p e s m below meth c A ls H locs hC hK hP hD hA hS hl
  obtain ⟨hx, hb, hr, hml, hown, hts, hlocks, hin⟩ := hC
  have hown : s.vm.findClass RX0 = some m.cls := hown
  have hl : lv_has ls 4 [(0, .ref (a 6)), (1, .int (nI x1))] := hl
  refine lv_iconst (v := 0) hx hb dX0_marksOf_0 (by decide) ?_
  refine lv_istore_n (lv' := [(2, .int 0), (0, .ref (a 6)), (1, .int (nI x1))]) hx hb dX0_marksOf_1 rfl hl (by decide) rfl (fun ls hl => ?_)
  refine lv_iconst (v := 0) hx hb dX0_marksOf_2 (by decide) ?_
  refine lv_istore_n (lv' := [(3, .int 0), (2, .int 0), (0, .ref (a 6)), (1, .int (nI x1))]) hx hb dX0_marksOf_3 rfl hl (by decide) rfl (fun ls hl => ?_)
  have lp4 : ∀ (k4 : Nat) (j1 : Nat) (w1 : Int32) (H : Heap) (locs : List Loc) (ls : Array Slot), j1 ≤ 384 → 384 < j1 + k4 → va_P D vwCl [(a 6, .inr (0, [.ref (a 5), .ref (a 25), .ref (a 26), .ref (a 27), .ref (a 28), .ref (a 29), .int (nI dm)])), (a 27, .inl (cZ, 1536, .inl d2))] H → va_S A s.heap H locs → lv_has ls 4 [(3, .int (nI j1)), (2, .int w1), (0, .ref (a 6)), (1, .int (nI x1))] → W p l e (rmX 3 0 0) s m ([.ref (a 6), .int (nI x1)] : List Value).toArray below meth c H locs 0 0 (MQ below (va_Qi (fun r (_ : Unit) => (fun r => True) r) (fun _ _ => True) A) ([.ref (a 6), .int (nI x1)] : List Value).toArray s 0 0 A) (F0 m 4 ls []) := by
    intro k4
    induction k4 with
    | zero =>
      intro j1 w1 H locs ls hj4 hk4  hP hS hl
      exact absurd hk4 (by omega)
    | succ k4 ih4 =>
      intro j1 w1 H locs ls hj4 hk4  hP hS hl
      refine lv_iload_n hx hb dX0_marksOf_4 rfl (lv_at hl 0 rfl) ?_
      refine lv_sipush (v := 384) hx hb dX0_marksOf_5 (by decide) ?_
      refine lv_icmp_ge (tgt := 34) hx hb dX0_marksOf_8 (by decide) (fun c_1 => ?_) (fun c_1 => ?_)
      · have n_2 : 384 ≤ j1 := (lf_X0_marksOf_3 a dm d2 x1 hdm hx1 j1 w1 k4 hj4 hk4 c_1)
        refine lv_iload_n hx hb dX0_marksOf_34 rfl (lv_at hl 1 rfl) ?_
        exact W.iret (v := w1) hx hb hr (fun tt9 ht hW => ⟨⟨(w1 : Int32), (), rfl, trivial, trivial⟩, hS.F ht⟩) hS.2.2 dX0_marksOf_35 hlocks
      · have n_4 : j1 < 384 := (lf_X0_marksOf_5 a dm d2 x1 hdm hx1 j1 w1 k4 hj4 hk4 c_1)
        refine lv_iload_n hx hb dX0_marksOf_11 rfl (lv_at hl 1 rfl) ?_
        refine lv_aload_n hx hb dX0_marksOf_12 rfl (lv_at hl 2 rfl) ?_
        refine lv_iload_n hx hb dX0_marksOf_13 rfl (lv_at hl 3 rfl) ?_
        refine lv_iload_n hx hb dX0_marksOf_14 rfl (lv_at hl 0 rfl) ?_
        refine eRi (va_runV (As := [.int (nI x1), .int (nI j1)]) (rest := [.int w1]) ⟨hx, hb, hml, hown, hts⟩ (c_X0_hasMark_g l D cI cB cZ cJ tx a dm d2 x1 j1 (lf_X0_marksOf_6 a dm d2 x1 hdm hx1 j1 w1 k4 hj4 hk4 c_1 n_4) (lf_X0_marksOf_7 a dm d2 x1 hdm hx1 j1 w1 k4 hj4 hk4 c_1 n_4) (lf_X0_marksOf_8 a dm d2 x1 hdm hx1 j1 w1 k4 hj4 hk4 c_1 n_4) H.size) (zV hts k_924 v_X0_hasMark ⟨Nat.le_of_ble_eq_true rfl, Nat.le_of_ble_eq_true rfl⟩) (pV (pxS hK hP hD [0, 1] (by decide) rfl) hK hP 0 rfl rfl) rfl rfl hl.1 rfl (lv_room (Nat.le_of_ble_eq_true rfl)) dX0_marksOf_15 ⟨Nat.le_of_ble_eq_true rfl, Nat.le_of_ble_eq_true rfl⟩) hP hS hA (fun r_9 H locs wr_9 hP hS => ?_)
        refine lv_if_eq (tgt := 25) hx hb dX0_marksOf_18 (by decide) (fun c_10 => ?_) (fun c_10 => ?_)
        · refine lv_iconst (v := 0) hx hb dX0_marksOf_25 (by decide) ?_
          refine lv_iadd hx hb dX0_marksOf_26 ?_
          refine lv_topi (fun x_11 ex_11 => ?_)
          refine lv_istore_n (lv' := [(2, .int x_11), (3, .int (nI j1)), (0, .ref (a 6)), (1, .int (nI x1))]) hx hb dX0_marksOf_27 rfl hl (by decide) rfl (fun ls hl => ?_)
          refine lv_iinc (v := nI (j1 + 1)) (lv' := [(3, .int (nI (j1 + 1))), (2, .int x_11), (0, .ref (a 6)), (1, .int (nI x1))]) hx hb dX0_marksOf_28 hl (k := 1) rfl (nI_1 j1) (by decide) rfl (fun ls hl => ?_)
          refine lv_goto (tgt := 4) hx hb dX0_marksOf_31 (by decide) ?_
          exact ih4 (j1 + 1) x_11 H locs ls (by omega) (by omega)  (hP.sub [0, 1] rfl)  hS (lv_sub hl [0, 1, 2, 3] rfl)
        · refine lv_iconst (v := 1) hx hb dX0_marksOf_21 (by decide) ?_
          refine lv_goto (tgt := 26) hx hb dX0_marksOf_22 (by decide) ?_
          refine lv_iadd hx hb dX0_marksOf_26 ?_
          refine lv_topi (fun x_12 ex_12 => ?_)
          refine lv_istore_n (lv' := [(2, .int x_12), (3, .int (nI j1)), (0, .ref (a 6)), (1, .int (nI x1))]) hx hb dX0_marksOf_27 rfl hl (by decide) rfl (fun ls hl => ?_)
          refine lv_iinc (v := nI (j1 + 1)) (lv' := [(3, .int (nI (j1 + 1))), (2, .int x_12), (0, .ref (a 6)), (1, .int (nI x1))]) hx hb dX0_marksOf_28 hl (k := 1) rfl (nI_1 j1) (by decide) rfl (fun ls hl => ?_)
          refine lv_goto (tgt := 4) hx hb dX0_marksOf_31 (by decide) ?_
          exact ih4 (j1 + 1) x_12 H locs ls (by omega) (by omega)  (hP.sub [0, 1] rfl)  hS (lv_sub hl [0, 1, 2, 3] rfl)
  exact lp4 (384 + 1) 0 0 H locs ls (by omega) (by omega)  (hP.sub [0, 1] rfl)  hS (lv_sub hl [0, 1, 2, 3] rfl)

theorem lf_X0_common_1 (a : Nat → Nat) (dm : Nat) (d0 : Nat → Int32) (d1 : Nat → Int32) (d2 : Nat → Int32) (d3 : Nat → Int32) (x1 : Nat) (x2 : Nat) (hdm : dm ≤ 4) (hx1 : x1 < dm) (hx2 : x2 < dm) : dm ≤ 4 := by
  first | assumption | omega | decide
theorem lf_X0_common_2 (a : Nat → Nat) (dm : Nat) (d0 : Nat → Int32) (d1 : Nat → Int32) (d2 : Nat → Int32) (d3 : Nat → Int32) (x1 : Nat) (x2 : Nat) (hdm : dm ≤ 4) (hx1 : x1 < dm) (hx2 : x2 < dm) : x1 < dm := by
  first | assumption | omega | decide
theorem lf_X0_common_3 (a : Nat → Nat) (dm : Nat) (d0 : Nat → Int32) (d1 : Nat → Int32) (d2 : Nat → Int32) (d3 : Nat → Int32) (x1 : Nat) (x2 : Nat) (hdm : dm ≤ 4) (hx1 : x1 < dm) (hx2 : x2 < dm) : x2 < dm := by
  first | assumption | omega | decide
theorem lf_X0_common_7 (a : Nat → Nat) (dm : Nat) (d0 : Nat → Int32) (d1 : Nat → Int32) (d2 : Nat → Int32) (d3 : Nat → Int32) (x1 : Nat) (x2 : Nat) (hdm : dm ≤ 4) (hx1 : x1 < dm) (hx2 : x2 < dm) (d3_5 : Nat → Int32) (mm_6 : Nat) (hmm_6 : mm_6 ≤ 384) : ∃ m : Nat, m ≤ 384 ∧ (nI mm_6 : Int32) = nI m := by
  exact ⟨_, by omega, rfl⟩
set_option maxHeartbeats 4000000 in
set_option maxRecDepth 100000 in
theorem c_X0_common (l : Launch) (D : va_G) (cI cB cZ cJ : ClassId) (tx : List (ClassId × FieldType)) (a : Nat → Nat) (dm : Nat) (d0 : Nat → Int32) (d1 : Nat → Int32) (d2 : Nat → Int32) (d3 : Nat → Int32) (x1 : Nat) (x2 : Nat) (hdm : dm ≤ 4) (hx1 : x1 < dm) (hx2 : x2 < dm) : WrI l D cI cB cZ cJ tx yX0_common cX0_common 3 (some .int) 4 0 0 [.ref (a 6), .int (nI x1), .int (nI x2)] [(a 6, .inr (0, [.ref (a 5), .ref (a 25), .ref (a 26), .ref (a 27), .ref (a 28), .ref (a 29), .int (nI dm)])), (a 25, .inl (cI, 1536, .inl d0)), (a 26, .inl (cI, 1536, .inl d1)), (a 27, .inl (cZ, 1536, .inl d2)), (a 28, .inl (cI, 384, .inl d3))] (fun (r : Int32) (v : (Nat → Int32)) => ∃ m : Nat, m ≤ 384 ∧ r = nI m) (fun v => [(a 6, .inr (0, [.ref (a 5), .ref (a 25), .ref (a 26), .ref (a 27), .ref (a 28), .ref (a 29), .int (nI dm)])), (a 25, .inl (cI, 1536, .inl d0)), (a 26, .inl (cI, 1536, .inl d1)), (a 27, .inl (cZ, 1536, .inl d2)), (a 28, .inl (cI, 384, .inl v))]) := by
  refine wri_of2 (by decide) (Nat.le_of_ble_eq_true rfl) ?_
  intro p e s m below meth c A ls H locs hC hK hP hD hA hS hl
  obtain ⟨hx, hb, hr, hml, hown, hts, hlocks, hin⟩ := hC
  have hown : s.vm.findClass RX0 = some m.cls := hown
  have hl : lv_has ls 3 [(0, .ref (a 6)), (1, .int (nI x1)), (2, .int (nI x2))] := hl
  refine lv_aload_n hx hb dX0_common_0 rfl (lv_at hl 0 rfl) ?_
  refine lv_iload_n hx hb dX0_common_1 rfl (lv_at hl 1 rfl) ?_
  refine lv_iload_n hx hb dX0_common_2 rfl (lv_at hl 2 rfl) ?_
  refine lv_iconst (v := 0) hx hb dX0_common_3 (by decide) ?_
  refine lv_aload_n hx hb dX0_common_4 rfl (lv_at hl 0 rfl) ?_
  refine va_get (D := D) (ci := 0) (v := .ref (a 28)) (C := RX0) (T := TX0) (N := 7) hx hb hts inT_X0 hown hK.1 hP 0 rfl rfl 4 (by decide) (hts _ k_298) (fun _ h9 => h9) rfl dX0_common_5 ?_
  refine eWi (wr := []) (va_runV (As := [.int (nI x1), .int (nI x2), .int 0, .ref (a 28)]) (rest := []) ⟨hx, hb, hml, hown, hts⟩ (c_X0_gather_d3 l D cI cB cZ cJ tx a dm d0 d1 d2 d3 x1 x2 0 (lf_X0_common_1 a dm d0 d1 d2 d3 x1 x2 hdm hx1 hx2) (lf_X0_common_2 a dm d0 d1 d2 d3 x1 x2 hdm hx1 hx2) (lf_X0_common_3 a dm d0 d1 d2 d3 x1 x2 hdm hx1 hx2) H.size) (zV hts k_951 v_X0_gather ⟨Nat.le_of_ble_eq_true rfl, Nat.le_of_ble_eq_true rfl⟩) (pV (pxS hK hP hD [0, 1, 2, 3, 4] (by decide) rfl) hK hP 0 rfl rfl) rfl rfl hl.1 rfl (lv_room (Nat.le_of_ble_eq_true rfl)) dX0_common_8 ⟨Nat.le_of_ble_eq_true rfl, Nat.le_of_ble_eq_true rfl⟩) hP hD hS hA [0, 1, 2, 3, 4] [] rfl rfl (by decide) (by decide) (fun r_4 u_5 H locs wr_4 hP hD hS => ?_)
  obtain ⟨d3_5, rfl⟩ : ∃ z, z = u_5 := ⟨_, rfl⟩
  have hP : va_P D vwCl [(a 6, .inr (0, [.ref (a 5), .ref (a 25), .ref (a 26), .ref (a 27), .ref (a 28), .ref (a 29), .int (nI dm)])), (a 25, .inl (cI, 1536, .inl d0)), (a 26, .inl (cI, 1536, .inl d1)), (a 27, .inl (cZ, 1536, .inl d2)), (a 28, .inl (cI, 384, .inl d3_5))] H := hP
  have hD : va_D A [(a 6, .inr (0, [.ref (a 5), .ref (a 25), .ref (a 26), .ref (a 27), .ref (a 28), .ref (a 29), .int (nI dm)])), (a 25, .inl (cI, 1536, .inl d0)), (a 26, .inl (cI, 1536, .inl d1)), (a 27, .inl (cZ, 1536, .inl d2)), (a 28, .inl (cI, 384, .inl d3_5))] := hD
  rcases wr_4 with ⟨mm_6, hmm_6, rfl⟩
  · exact W.iret (v := nI mm_6) hx hb hr (fun tt9 ht hW => ⟨⟨(nI mm_6 : Int32), ((d3_5 : Nat → Int32)), rfl, (lf_X0_common_7 a dm d0 d1 d2 d3 x1 x2 hdm hx1 hx2 d3_5 mm_6 hmm_6), ⟨by rw [ht]; exact hP, hD⟩⟩, hS.F ht⟩) hS.2.2 dX0_common_11 hlocks
