theorem lf_J9_floorDiv_1 (n1 : Int32) (n2 : Int32) (hnz : ¬ n2 = 0) : ¬ n2 = 0 := by
  assumption
theorem lf_J9_floorDiv_5 (n1 : Int32) (n2 : Int32) (hnz : ¬ n2 = 0) (x_2 : Int32) (x_3 : Int32) (ex_3 : x_3 = n1 ^^^ n2) (c_4 : 0 ≤ x_3) : True := by
  first | trivial | assumption | decide
theorem lf_J9_floorDiv_8 (n1 : Int32) (n2 : Int32) (hnz : ¬ n2 = 0) (x_2 : Int32) (x_3 : Int32) (ex_3 : x_3 = n1 ^^^ n2) (c_4 : ¬ 0 ≤ x_3) (x_6 : Int32) (ex_6 : x_6 = x_2 * n2) (c_7 : x_6 = n1) : True := by
  first | trivial | assumption | decide
theorem lf_J9_floorDiv_10 (n1 : Int32) (n2 : Int32) (hnz : ¬ n2 = 0) (x_2 : Int32) (x_3 : Int32) (ex_3 : x_3 = n1 ^^^ n2) (c_4 : ¬ 0 ≤ x_3) (x_6 : Int32) (ex_6 : x_6 = x_2 * n2) (c_7 : ¬ x_6 = n1) (x_9 : Int32) (ex_9 : x_9 = x_2 - 1) : True := by
  first | trivial | assumption | decide
set_option maxHeartbeats 4000000 in
set_option maxRecDepth 100000 in
theorem c_J9_floorDiv (l : Launch) (D : va_G) (cI cB cZ cJ : ClassId) (tx : List (ClassId × FieldType)) (n1 : Int32) (n2 : Int32) (hnz : ¬ n2 = 0) : RdI l D cI cB cZ cJ tx yJ9_floorDiv_7cf53 cJ9_floorDiv_7cf53 3 (some .int) 0 [.int n1, .int n2] [] (fun r => True) := by
  refine rdi_of2 (by decide) (Nat.le_of_ble_eq_true rfl) ?_
  intro p e s m below meth c A ls H locs hC hK hP hD hA hS hl
  obtain ⟨hx, hb, hr, hml, hown, hts, hlocks, hin⟩ := hC
  have hown : s.vm.findClass RJ9 = some m.cls := hown
  have hl : lv_has ls 3 [(0, .int n1), (1, .int n2)] := hl
  refine lv_iload_n hx hb dJ9_floorDiv_7cf53_0 rfl (lv_at hl 0 rfl) ?_
  refine lv_iload_n hx hb dJ9_floorDiv_7cf53_1 rfl (lv_at hl 1 rfl) ?_
  refine lv_idiv hx hb dJ9_floorDiv_7cf53_2 (lf_J9_floorDiv_1 n1 n2 hnz) ?_
  refine lv_topi (fun x_2 _ => ?_)
  refine lv_istore_n (lv' := [(2, .int x_2), (0, .int n1), (1, .int n2)]) hx hb dJ9_floorDiv_7cf53_3 rfl hl (by decide) rfl (fun ls hl => ?_)
  refine lv_iload_n hx hb dJ9_floorDiv_7cf53_4 rfl (lv_at hl 1 rfl) ?_
  refine lv_iload_n hx hb dJ9_floorDiv_7cf53_5 rfl (lv_at hl 2 rfl) ?_
  refine lv_ixor hx hb dJ9_floorDiv_7cf53_6 ?_
  refine lv_topi (fun x_3 ex_3 => ?_)
  refine lv_if_ge (tgt := 21) hx hb dJ9_floorDiv_7cf53_7 (by decide) (fun c_4 => ?_) (fun c_4 => ?_)
  · refine lv_iload_n hx hb dJ9_floorDiv_7cf53_21 rfl (lv_at hl 0 rfl) ?_
    exact W.iret (v := x_2) hx hb hr (fun tt9 ht hW => ⟨⟨(x_2 : Int32), (), rfl, (lf_J9_floorDiv_5 n1 n2 hnz x_2 x_3 ex_3 c_4), trivial⟩, hS.F ht⟩) hS.2.2 dJ9_floorDiv_7cf53_22 hlocks
  · refine lv_iload_n hx hb dJ9_floorDiv_7cf53_10 rfl (lv_at hl 0 rfl) ?_
    refine lv_iload_n hx hb dJ9_floorDiv_7cf53_11 rfl (lv_at hl 2 rfl) ?_
    refine lv_imul hx hb dJ9_floorDiv_7cf53_12 ?_
    refine lv_topi (fun x_6 ex_6 => ?_)
    refine lv_iload_n hx hb dJ9_floorDiv_7cf53_13 rfl (lv_at hl 1 rfl) ?_
    refine lv_icmp_eq (tgt := 21) hx hb dJ9_floorDiv_7cf53_14 (by decide) (fun c_7 => ?_) (fun c_7 => ?_)
    · refine lv_iload_n hx hb dJ9_floorDiv_7cf53_21 rfl (lv_at hl 0 rfl) ?_
      exact W.iret (v := x_2) hx hb hr (fun tt9 ht hW => ⟨⟨(x_2 : Int32), (), rfl, (lf_J9_floorDiv_8 n1 n2 hnz x_2 x_3 ex_3 c_4 x_6 ex_6 c_7), trivial⟩, hS.F ht⟩) hS.2.2 dJ9_floorDiv_7cf53_22 hlocks
    · refine lv_iload_n hx hb dJ9_floorDiv_7cf53_17 rfl (lv_at hl 0 rfl) ?_
      refine lv_iconst (v := 1) hx hb dJ9_floorDiv_7cf53_18 (by decide) ?_
      refine lv_isub hx hb dJ9_floorDiv_7cf53_19 ?_
      refine lv_topi (fun x_9 ex_9 => ?_)
      exact W.iret (v := x_9) hx hb hr (fun tt9 ht hW => ⟨⟨(x_9 : Int32), (), rfl, (lf_J9_floorDiv_10 n1 n2 hnz x_2 x_3 ex_3 c_4 x_6 ex_6 c_7 x_9 ex_9), trivial⟩, hS.F ht⟩) hS.2.2 dJ9_floorDiv_7cf53_20 hlocks

theorem lf_X0_hasMark_g_5 (a : Nat → Nat) (dm : Nat) (d2 : Nat → Int32) (x1 : Nat) (x2 : Nat) (hdm : dm ≤ 4) (hx1 : x1 < dm) (hx2 : x2 < 384) (c_2 : (0 : Int32) ≤ nI x1 ∧ nI x1 ≤ nI dm - 1) (c_4 : (0 : Int32) ≤ nI x2 ∧ nI x2 ≤ 383) : vp_in (nI ((x1 * 384) + x2)) 1536 := by
  first | exact vp_in_nI (by omega) (by decide) | (unfold vp_in; decide)
set_option maxHeartbeats 4000000 in
set_option maxRecDepth 100000 in
theorem c_X0_hasMark_g (l : Launch) (D : va_G) (cI cB cZ cJ : ClassId) (tx : List (ClassId × FieldType)) (a : Nat → Nat) (dm : Nat) (d2 : Nat → Int32) (x1 : Nat) (x2 : Nat) (hdm : dm ≤ 4) (hx1 : x1 < dm) (hx2 : x2 < 384) : RdI l D cI cB cZ cJ tx yX0_hasMark cX0_hasMark 3 (some .boolean) 2 [.ref (a 6), .int (nI x1), .int (nI x2)] [(a 6, .inr (0, [.ref (a 5), .ref (a 25), .ref (a 26), .ref (a 27), .ref (a 28), .ref (a 29), .int (nI dm)])), (a 27, .inl (cZ, 1536, .inl d2))] (fun r => True) := by
  refine rdi_of2 (by decide) (Nat.le_of_ble_eq_true rfl) ?_
  intro p e s m below meth c A ls H locs hC hK hP hD hA hS hl
  obtain ⟨hx, hb, hr, hml, hown, hts, hlocks, hin⟩ := hC
  have hown : s.vm.findClass RX0 = some m.cls := hown
  have hl : lv_has ls 3 [(0, .ref (a 6)), (1, .int (nI x1)), (2, .int (nI x2))] := hl
  refine lv_aload_n hx hb dX0_hasMark_0 rfl (lv_at hl 0 rfl) ?_
  refine lv_iload_n hx hb dX0_hasMark_1 rfl (lv_at hl 1 rfl) ?_
  refine eRi (va_runV (As := [.int (nI x1)]) (rest := []) ⟨hx, hb, hml, hown, hts⟩ (c_X0_has l D cI cB cZ cJ tx a dm (nI x1) H.size) (zV hts k_928 v_X0_has ⟨Nat.le_of_ble_eq_true rfl, Nat.le_of_ble_eq_true rfl⟩) (pV (px1 hK hP 0 rfl) hK hP 0 rfl rfl) rfl rfl hl.1 rfl (lv_room (Nat.le_of_ble_eq_true rfl)) dX0_hasMark_2 ⟨Nat.le_of_ble_eq_true rfl, Nat.le_of_ble_eq_true rfl⟩) hP hS hA (fun r_1 H locs wr_1 hP hS => ?_)
  subst wr_1
  refine lv_bi_eq (tgt := 38) hx hb dX0_hasMark_5 (by decide) (fun c_2 => ?_) (fun c_2 => ?_)
  · refine lv_iconst (v := 0) hx hb dX0_hasMark_38 (by decide) ?_
    exact W.zret (v := 0) hx hb hr (by decide) (fun tt9 ht hW => ⟨⟨(0 : Int32), (), rfl, trivial, trivial⟩, hS.F ht⟩) hS.2.2 dX0_hasMark_39 hlocks
  · refine lv_iload_n hx hb dX0_hasMark_8 rfl (lv_at hl 2 rfl) ?_
    refine lv_iconst (v := 0) hx hb dX0_hasMark_9 (by decide) ?_
    refine lv_sipush (v := 383) hx hb dX0_hasMark_10 (by decide) ?_
    refine eRi (va_runSN (As := [.int (nI x2), .int 0, .int 383]) (rest := []) ⟨hx, hb, hml, hown, hts⟩ (c_X11_within l D cI cB cZ cJ tx (nI x2) 0 383 H.size) (zSN hts hK n_903 v_X11_within ⟨Nat.le_of_ble_eq_true rfl, Nat.le_of_ble_eq_true rfl⟩) (px0 hK) rfl rfl hl.1 rfl (lv_room (Nat.le_of_ble_eq_true rfl)) dX0_hasMark_13 ⟨Nat.le_of_ble_eq_true rfl, Nat.le_of_ble_eq_true rfl⟩) hP hS hA (fun r_3 H locs wr_3 hP hS => ?_)
    subst wr_3
    refine lv_bi_eq (tgt := 38) hx hb dX0_hasMark_16 (by decide) (fun c_4 => ?_) (fun c_4 => ?_)
    · refine lv_iconst (v := 0) hx hb dX0_hasMark_38 (by decide) ?_
      exact W.zret (v := 0) hx hb hr (by decide) (fun tt9 ht hW => ⟨⟨(0 : Int32), (), rfl, trivial, trivial⟩, hS.F ht⟩) hS.2.2 dX0_hasMark_39 hlocks
    · refine lv_aload_n hx hb dX0_hasMark_19 rfl (lv_at hl 0 rfl) ?_
      refine va_get (D := D) (ci := 0) (v := .ref (a 27)) (C := RX0) (T := TX0) (N := 7) hx hb hts inT_X0 hown hK.1 hP 0 rfl rfl 3 (by decide) (hts _ k_297) (fun _ h9 => h9) rfl dX0_hasMark_20 ?_
      refine lv_iload_n hx hb dX0_hasMark_23 rfl (lv_at hl 1 rfl) ?_
      refine lv_sipush (v := 384) hx hb dX0_hasMark_24 (by decide) ?_
      refine lv_imul hx hb dX0_hasMark_27 ?_
      refine lv_topv (y := nI (x1 * 384)) (pk_mul x1 384) ?_
      refine lv_iload_n hx hb dX0_hasMark_28 rfl (lv_at hl 2 rfl) ?_
      refine lv_iadd hx hb dX0_hasMark_29 ?_
      refine lv_topv (y := nI ((x1 * 384) + x2)) (nI_add (x1 * 384) x2) ?_
      refine ld_z hx hb hK hP 1 rfl (lf_X0_hasMark_g_5 a dm d2 x1 x2 hdm hx1 hx2 c_2 c_4) dX0_hasMark_30 (fun x_6 => ?_)
      refine lv_if_eq (tgt := 38) hx hb dX0_hasMark_31 (by decide) (fun c_7 => ?_) (fun c_7 => ?_)
      · refine lv_iconst (v := 0) hx hb dX0_hasMark_38 (by decide) ?_
        exact W.zret (v := 0) hx hb hr (by decide) (fun tt9 ht hW => ⟨⟨(0 : Int32), (), rfl, trivial, trivial⟩, hS.F ht⟩) hS.2.2 dX0_hasMark_39 hlocks
      · refine lv_iconst (v := 1) hx hb dX0_hasMark_34 (by decide) ?_
        refine lv_goto (tgt := 39) hx hb dX0_hasMark_35 (by decide) ?_
        exact W.zret (v := 1) hx hb hr (by decide) (fun tt9 ht hW => ⟨⟨(1 : Int32), (), rfl, trivial, trivial⟩, hS.F ht⟩) hS.2.2 dX0_hasMark_39 hlocks

theorem lf_X0_gather_d3_3 (a : Nat → Nat) (dm : Nat) (d0 : Nat → Int32) (d1 : Nat → Int32) (d2 : Nat → Int32) (d3 : Nat → Int32) (x1 : Nat) (x2 : Nat) (n3 : Int32) (hdm : dm ≤ 4) (hx1 : x1 < dm) (hx2 : x2 < dm) (j1 : Nat) (cn : Nat) (y6_a28 : Nat → Int32) (k6 : Nat) (hj6 : j1 ≤ 384) (hk6 : 384 < j1 + (k6 + 1)) (hcn : cn ≤ j1) (c_1 : 384 ≤ nI j1) : 384 ≤ j1 := by
  exact (nI_leI (a := 384) (b := j1) (by omega) (by omega)).mp c_1
theorem lf_X0_gather_d3_4 (a : Nat → Nat) (dm : Nat) (d0 : Nat → Int32) (d1 : Nat → Int32) (d2 : Nat → Int32) (d3 : Nat → Int32) (x1 : Nat) (x2 : Nat) (n3 : Int32) (hdm : dm ≤ 4) (hx1 : x1 < dm) (hx2 : x2 < dm) (j1 : Nat) (cn : Nat) (y6_a28 : Nat → Int32) (k6 : Nat) (hj6 : j1 ≤ 384) (hk6 : 384 < j1 + (k6 + 1)) (hcn : cn ≤ j1) (c_1 : 384 ≤ nI j1) (n_2 : 384 ≤ j1) : ∃ m : Nat, m ≤ 384 ∧ (nI cn : Int32) = nI m := by
  exact ⟨_, by omega, rfl⟩
theorem lf_X0_gather_d3_6 (a : Nat → Nat) (dm : Nat) (d0 : Nat → Int32) (d1 : Nat → Int32) (d2 : Nat → Int32) (d3 : Nat → Int32) (x1 : Nat) (x2 : Nat) (n3 : Int32) (hdm : dm ≤ 4) (hx1 : x1 < dm) (hx2 : x2 < dm) (j1 : Nat) (cn : Nat) (y6_a28 : Nat → Int32) (k6 : Nat) (hj6 : j1 ≤ 384) (hk6 : 384 < j1 + (k6 + 1)) (hcn : cn ≤ j1) (c_1 : ¬ 384 ≤ nI j1) : j1 < 384 := by
  exact Nat.lt_of_not_le (fun q => c_1 ((nI_leI (a := 384) (b := j1) (by omega) (by omega)).mpr q))
theorem lf_X0_gather_d3_7 (a : Nat → Nat) (dm : Nat) (d0 : Nat → Int32) (d1 : Nat → Int32) (d2 : Nat → Int32) (d3 : Nat → Int32) (x1 : Nat) (x2 : Nat) (n3 : Int32) (hdm : dm ≤ 4) (hx1 : x1 < dm) (hx2 : x2 < dm) (j1 : Nat) (cn : Nat) (y6_a28 : Nat → Int32) (k6 : Nat) (hj6 : j1 ≤ 384) (hk6 : 384 < j1 + (k6 + 1)) (hcn : cn ≤ j1) (c_1 : ¬ 384 ≤ nI j1) (n_5 : j1 < 384) : dm ≤ 4 := by
  first | assumption | omega | decide
theorem lf_X0_gather_d3_8 (a : Nat → Nat) (dm : Nat) (d0 : Nat → Int32) (d1 : Nat → Int32) (d2 : Nat → Int32) (d3 : Nat → Int32) (x1 : Nat) (x2 : Nat) (n3 : Int32) (hdm : dm ≤ 4) (hx1 : x1 < dm) (hx2 : x2 < dm) (j1 : Nat) (cn : Nat) (y6_a28 : Nat → Int32) (k6 : Nat) (hj6 : j1 ≤ 384) (hk6 : 384 < j1 + (k6 + 1)) (hcn : cn ≤ j1) (c_1 : ¬ 384 ≤ nI j1) (n_5 : j1 < 384) : x1 < dm := by
  first | assumption | omega | decide
theorem lf_X0_gather_d3_9 (a : Nat → Nat) (dm : Nat) (d0 : Nat → Int32) (d1 : Nat → Int32) (d2 : Nat → Int32) (d3 : Nat → Int32) (x1 : Nat) (x2 : Nat) (n3 : Int32) (hdm : dm ≤ 4) (hx1 : x1 < dm) (hx2 : x2 < dm) (j1 : Nat) (cn : Nat) (y6_a28 : Nat → Int32) (k6 : Nat) (hj6 : j1 ≤ 384) (hk6 : 384 < j1 + (k6 + 1)) (hcn : cn ≤ j1) (c_1 : ¬ 384 ≤ nI j1) (n_5 : j1 < 384) : j1 < 384 := by
  first | assumption | omega | decide
theorem lf_X0_gather_d3_12 (a : Nat → Nat) (dm : Nat) (d0 : Nat → Int32) (d1 : Nat → Int32) (d2 : Nat → Int32) (d3 : Nat → Int32) (x1 : Nat) (x2 : Nat) (n3 : Int32) (hdm : dm ≤ 4) (hx1 : x1 < dm) (hx2 : x2 < dm) (j1 : Nat) (cn : Nat) (y6_a28 : Nat → Int32) (k6 : Nat) (hj6 : j1 ≤ 384) (hk6 : 384 < j1 + (k6 + 1)) (hcn : cn ≤ j1) (c_1 : ¬ 384 ≤ nI j1) (n_5 : j1 < 384) (r_10 : Int32) (c_11 : r_10 = 0) : cn ≤ (j1 + 1) := by
  first | assumption | omega
theorem lf_X0_gather_d3_13 (a : Nat → Nat) (dm : Nat) (d0 : Nat → Int32) (d1 : Nat → Int32) (d2 : Nat → Int32) (d3 : Nat → Int32) (x1 : Nat) (x2 : Nat) (n3 : Int32) (hdm : dm ≤ 4) (hx1 : x1 < dm) (hx2 : x2 < dm) (j1 : Nat) (cn : Nat) (y6_a28 : Nat → Int32) (k6 : Nat) (hj6 : j1 ≤ 384) (hk6 : 384 < j1 + (k6 + 1)) (hcn : cn ≤ j1) (c_1 : ¬ 384 ≤ nI j1) (n_5 : j1 < 384) (r_10 : Int32) (c_11 : ¬ r_10 = 0) : dm ≤ 4 := by
  first | assumption | omega | decide
theorem lf_X0_gather_d3_14 (a : Nat → Nat) (dm : Nat) (d0 : Nat → Int32) (d1 : Nat → Int32) (d2 : Nat → Int32) (d3 : Nat → Int32) (x1 : Nat) (x2 : Nat) (n3 : Int32) (hdm : dm ≤ 4) (hx1 : x1 < dm) (hx2 : x2 < dm) (j1 : Nat) (cn : Nat) (y6_a28 : Nat → Int32) (k6 : Nat) (hj6 : j1 ≤ 384) (hk6 : 384 < j1 + (k6 + 1)) (hcn : cn ≤ j1) (c_1 : ¬ 384 ≤ nI j1) (n_5 : j1 < 384) (r_10 : Int32) (c_11 : ¬ r_10 = 0) : j1 < dm := by
  first | assumption | omega | decide
theorem lf_X0_gather_d3_15 (a : Nat → Nat) (dm : Nat) (d0 : Nat → Int32) (d1 : Nat → Int32) (d2 : Nat → Int32) (d3 : Nat → Int32) (x1 : Nat) (x2 : Nat) (n3 : Int32) (hdm : dm ≤ 4) (hx1 : x1 < dm) (hx2 : x2 < dm) (j1 : Nat) (cn : Nat) (y6_a28 : Nat → Int32) (k6 : Nat) (hj6 : j1 ≤ 384) (hk6 : 384 < j1 + (k6 + 1)) (hcn : cn ≤ j1) (c_1 : ¬ 384 ≤ nI j1) (n_5 : j1 < 384) (r_10 : Int32) (c_11 : ¬ r_10 = 0) : j1 < 384 := by
  first | assumption | omega | decide
theorem lf_X0_gather_d3_18 (a : Nat → Nat) (dm : Nat) (d0 : Nat → Int32) (d1 : Nat → Int32) (d2 : Nat → Int32) (d3 : Nat → Int32) (x1 : Nat) (x2 : Nat) (n3 : Int32) (hdm : dm ≤ 4) (hx1 : x1 < dm) (hx2 : x2 < dm) (j1 : Nat) (cn : Nat) (y6_a28 : Nat → Int32) (k6 : Nat) (hj6 : j1 ≤ 384) (hk6 : 384 < j1 + (k6 + 1)) (hcn : cn ≤ j1) (c_1 : ¬ 384 ≤ nI j1) (n_5 : j1 < 384) (r_10 : Int32) (c_11 : ¬ r_10 = 0) (r_16 : Int32) (c_17 : r_16 = 0) : cn ≤ (j1 + 1) := by
  first | assumption | omega
theorem lf_X0_gather_d3_19 (a : Nat → Nat) (dm : Nat) (d0 : Nat → Int32) (d1 : Nat → Int32) (d2 : Nat → Int32) (d3 : Nat → Int32) (x1 : Nat) (x2 : Nat) (n3 : Int32) (hdm : dm ≤ 4) (hx1 : x1 < dm) (hx2 : x2 < dm) (j1 : Nat) (cn : Nat) (y6_a28 : Nat → Int32) (k6 : Nat) (hj6 : j1 ≤ 384) (hk6 : 384 < j1 + (k6 + 1)) (hcn : cn ≤ j1) (c_1 : ¬ 384 ≤ nI j1) (n_5 : j1 < 384) (r_10 : Int32) (c_11 : ¬ r_10 = 0) (r_16 : Int32) (c_17 : ¬ r_16 = 0) : j1 < 4 := by
  first | assumption | omega | decide
theorem lf_X0_gather_d3_20 (a : Nat → Nat) (dm : Nat) (d0 : Nat → Int32) (d1 : Nat → Int32) (d2 : Nat → Int32) (d3 : Nat → Int32) (x1 : Nat) (x2 : Nat) (n3 : Int32) (hdm : dm ≤ 4) (hx1 : x1 < dm) (hx2 : x2 < dm) (j1 : Nat) (cn : Nat) (y6_a28 : Nat → Int32) (k6 : Nat) (hj6 : j1 ≤ 384) (hk6 : 384 < j1 + (k6 + 1)) (hcn : cn ≤ j1) (c_1 : ¬ 384 ≤ nI j1) (n_5 : j1 < 384) (r_10 : Int32) (c_11 : ¬ r_10 = 0) (r_16 : Int32) (c_17 : ¬ r_16 = 0) : j1 < 384 := by
  first | assumption | omega | decide
theorem lf_X0_gather_d3_22 (a : Nat → Nat) (dm : Nat) (d0 : Nat → Int32) (d1 : Nat → Int32) (d2 : Nat → Int32) (d3 : Nat → Int32) (x1 : Nat) (x2 : Nat) (n3 : Int32) (hdm : dm ≤ 4) (hx1 : x1 < dm) (hx2 : x2 < dm) (j1 : Nat) (cn : Nat) (y6_a28 : Nat → Int32) (k6 : Nat) (hj6 : j1 ≤ 384) (hk6 : 384 < j1 + (k6 + 1)) (hcn : cn ≤ j1) (c_1 : ¬ 384 ≤ nI j1) (n_5 : j1 < 384) (r_10 : Int32) (c_11 : ¬ r_10 = 0) (r_16 : Int32) (c_17 : ¬ r_16 = 0) (r_21 : Int32) : x1 < 4 := by
  first | assumption | omega | decide
theorem lf_X0_gather_d3_23 (a : Nat → Nat) (dm : Nat) (d0 : Nat → Int32) (d1 : Nat → Int32) (d2 : Nat → Int32) (d3 : Nat → Int32) (x1 : Nat) (x2 : Nat) (n3 : Int32) (hdm : dm ≤ 4) (hx1 : x1 < dm) (hx2 : x2 < dm) (j1 : Nat) (cn : Nat) (y6_a28 : Nat → Int32) (k6 : Nat) (hj6 : j1 ≤ 384) (hk6 : 384 < j1 + (k6 + 1)) (hcn : cn ≤ j1) (c_1 : ¬ 384 ≤ nI j1) (n_5 : j1 < 384) (r_10 : Int32) (c_11 : ¬ r_10 = 0) (r_16 : Int32) (c_17 : ¬ r_16 = 0) (r_21 : Int32) : j1 < 384 := by
  first | assumption | omega | decide
theorem lf_X0_gather_d3_27 (a : Nat → Nat) (dm : Nat) (d0 : Nat → Int32) (d1 : Nat → Int32) (d2 : Nat → Int32) (d3 : Nat → Int32) (x1 : Nat) (x2 : Nat) (n3 : Int32) (hdm : dm ≤ 4) (hx1 : x1 < dm) (hx2 : x2 < dm) (j1 : Nat) (cn : Nat) (y6_a28 : Nat → Int32) (k6 : Nat) (hj6 : j1 ≤ 384) (hk6 : 384 < j1 + (k6 + 1)) (hcn : cn ≤ j1) (c_1 : ¬ 384 ≤ nI j1) (n_5 : j1 < 384) (r_10 : Int32) (c_11 : ¬ r_10 = 0) (r_16 : Int32) (c_17 : ¬ r_16 = 0) (r_21 : Int32) (r_24 : Int32) (x_25 : Int32) (ex_25 : x_25 = r_21 - r_24) : vp_in (nI cn) 384 := by
  first | exact vp_in_nI (by omega) (by decide) | (unfold vp_in; decide)
theorem lf_X0_gather_d3_28 (a : Nat → Nat) (dm : Nat) (d0 : Nat → Int32) (d1 : Nat → Int32) (d2 : Nat → Int32) (d3 : Nat → Int32) (x1 : Nat) (x2 : Nat) (n3 : Int32) (hdm : dm ≤ 4) (hx1 : x1 < dm) (hx2 : x2 < dm) (j1 : Nat) (cn : Nat) (y6_a28 : Nat → Int32) (k6 : Nat) (hj6 : j1 ≤ 384) (hk6 : 384 < j1 + (k6 + 1)) (hcn : cn ≤ j1) (c_1 : ¬ 384 ≤ nI j1) (n_5 : j1 < 384) (r_10 : Int32) (c_11 : ¬ r_10 = 0) (r_16 : Int32) (c_17 : ¬ r_16 = 0) (r_21 : Int32) (r_24 : Int32) (x_25 : Int32) (ex_25 : x_25 = r_21 - r_24) (f_26 : Nat → Int32) : ((cn + 1)) ≤ (j1 + 1) := by
  first | assumption | omega
theorem lf_X0_gather_d3_29 (a : Nat → Nat) (dm : Nat) (d0 : Nat → Int32) (d1 : Nat → Int32) (d2 : Nat → Int32) (d3 : Nat → Int32) (x1 : Nat) (x2 : Nat) (n3 : Int32) (hdm : dm ≤ 4) (hx1 : x1 < dm) (hx2 : x2 < dm) : 0 ≤ 0 := by
  first | assumption | omega
set_option maxHeartbeats 4000000 in
set_option maxRecDepth 100000 in
theorem c_X0_gather_d3 (l : Launch) (D : va_G) (cI cB cZ cJ : ClassId) (tx : List (ClassId × FieldType)) (a : Nat → Nat) (dm : Nat) (d0 : Nat → Int32) (d1 : Nat → Int32) (d2 : Nat → Int32) (d3 : Nat → Int32) (x1 : Nat) (x2 : Nat) (n3 : Int32) (hdm : dm ≤ 4) (hx1 : x1 < dm) (hx2 : x2 < dm) : WrI l D cI cB cZ cJ tx yX0_gather cX0_gather 7 (some .int) 3 0 0 [.ref (a 6), .int (nI x1), .int (nI x2), .int n3, .ref (a 28)] [(a 6, .inr (0, [.ref (a 5), .ref (a 25), .ref (a 26), .ref (a 27), .ref (a 28), .ref (a 29), .int (nI dm)])), (a 25, .inl (cI, 1536, .inl d0)), (a 26, .inl (cI, 1536, .inl d1)), (a 27, .inl (cZ, 1536, .inl d2)), (a 28, .inl (cI, 384, .inl d3))] (fun (r : Int32) (v : (Nat → Int32)) => ∃ m : Nat, m ≤ 384 ∧ r = nI m) (fun v => [(a 6, .inr (0, [.ref (a 5), .ref (a 25), .ref (a 26), .ref (a 27), .ref (a 28), .ref (a 29), .int (nI dm)])), (a 25, .inl (cI, 1536, .inl d0)), (a 26, .inl (cI, 1536, .inl d1)), (a 27, .inl (cZ, 1536, .inl d2)), (a 28, .inl (cI, 384, .inl v))]) := by
  refine wri_of2 (by decide) (Nat.le_of_ble_eq_true rfl) ?_
  intro p e s m below meth c A ls H locs hC hK hP hD hA hS hl
  obtain ⟨hx, hb, hr, hml, hown, hts, hlocks, hin⟩ := hC
  have hown : s.vm.findClass RX0 = some m.cls := hown
  have hl : lv_has ls 7 [(0, .ref (a 6)), (1, .int (nI x1)), (2, .int (nI x2)), (3, .int n3), (4, .ref (a 28))] := hl
  refine lv_iconst (v := 0) hx hb dX0_gather_0 (by decide) ?_
  refine lv_istore (lv' := [(5, .int 0), (0, .ref (a 6)), (1, .int (nI x1)), (2, .int (nI x2)), (3, .int n3), (4, .ref (a 28))]) hx hb dX0_gather_1 hl (by decide) rfl (fun ls hl => ?_)
  refine lv_iconst (v := 0) hx hb dX0_gather_3 (by decide) ?_
  refine lv_istore (lv' := [(6, .int 0), (5, .int 0), (0, .ref (a 6)), (1, .int (nI x1)), (2, .int (nI x2)), (3, .int n3), (4, .ref (a 28))]) hx hb dX0_gather_4 hl (by decide) rfl (fun ls hl => ?_)
  have lp6 : ∀ (k6 : Nat) (j1 : Nat) (cn : Nat) (y6_a28 : Nat → Int32) (H : Heap) (locs : List Loc) (ls : Array Slot), j1 ≤ 384 → 384 < j1 + k6 → (cn ≤ j1) → va_P D vwCl [(a 6, .inr (0, [.ref (a 5), .ref (a 25), .ref (a 26), .ref (a 27), .ref (a 28), .ref (a 29), .int (nI dm)])), (a 25, .inl (cI, 1536, .inl d0)), (a 26, .inl (cI, 1536, .inl d1)), (a 27, .inl (cZ, 1536, .inl d2)), (a 28, .inl (cI, 384, .inl y6_a28))] H → va_D A [(a 6, .inr (0, [.ref (a 5), .ref (a 25), .ref (a 26), .ref (a 27), .ref (a 28), .ref (a 29), .int (nI dm)])), (a 25, .inl (cI, 1536, .inl d0)), (a 26, .inl (cI, 1536, .inl d1)), (a 27, .inl (cZ, 1536, .inl d2)), (a 28, .inl (cI, 384, .inl y6_a28))] → va_S A s.heap H locs → lv_has ls 7 [(6, .int (nI j1)), (5, .int (nI cn)), (0, .ref (a 6)), (1, .int (nI x1)), (2, .int (nI x2)), (3, .int n3), (4, .ref (a 28))] → W p l e (rmX 3 0 0) s m ([.ref (a 6), .int (nI x1), .int (nI x2), .int n3, .ref (a 28)] : List Value).toArray below meth c H locs 0 0 (MQ below (va_Qi (fun (r : Int32) (v : (Nat → Int32)) => ∃ m : Nat, m ≤ 384 ∧ r = nI m) (fun u => BX D A ((fun v => [(a 6, .inr (0, [.ref (a 5), .ref (a 25), .ref (a 26), .ref (a 27), .ref (a 28), .ref (a 29), .int (nI dm)])), (a 25, .inl (cI, 1536, .inl d0)), (a 26, .inl (cI, 1536, .inl d1)), (a 27, .inl (cZ, 1536, .inl d2)), (a 28, .inl (cI, 384, .inl v))]) u)) A) ([.ref (a 6), .int (nI x1), .int (nI x2), .int n3, .ref (a 28)] : List Value).toArray s 0 0 A) (F0 m 6 ls []) := by
    intro k6
    induction k6 with
    | zero =>
      intro j1 cn y6_a28 H locs ls hj6 hk6 hcn hP hD hS hl
      exact absurd hk6 (by omega)
    | succ k6 ih6 =>
      intro j1 cn y6_a28 H locs ls hj6 hk6 hcn hP hD hS hl
      refine lv_iload hx hb dX0_gather_6 (lv_at hl 0 rfl) ?_
      refine lv_sipush (v := 384) hx hb dX0_gather_8 (by decide) ?_
      refine lv_icmp_ge (tgt := 65) hx hb dX0_gather_11 (by decide) (fun c_1 => ?_) (fun c_1 => ?_)
      · have n_2 : 384 ≤ j1 := (lf_X0_gather_d3_3 a dm d0 d1 d2 d3 x1 x2 n3 hdm hx1 hx2 j1 cn y6_a28 k6 hj6 hk6 hcn c_1)
        refine lv_iload hx hb dX0_gather_65 (lv_at hl 1 rfl) ?_
        exact W.iret (v := nI cn) hx hb hr (fun tt9 ht hW => ⟨⟨(nI cn : Int32), ((y6_a28 : Nat → Int32)), rfl, (lf_X0_gather_d3_4 a dm d0 d1 d2 d3 x1 x2 n3 hdm hx1 hx2 j1 cn y6_a28 k6 hj6 hk6 hcn c_1 n_2), ⟨by rw [ht]; exact hP, hD⟩⟩, hS.F ht⟩) hS.2.2 dX0_gather_67 hlocks
      · have n_5 : j1 < 384 := (lf_X0_gather_d3_6 a dm d0 d1 d2 d3 x1 x2 n3 hdm hx1 hx2 j1 cn y6_a28 k6 hj6 hk6 hcn c_1)
        refine lv_aload_n hx hb dX0_gather_14 rfl (lv_at hl 2 rfl) ?_
        refine lv_iload_n hx hb dX0_gather_15 rfl (lv_at hl 3 rfl) ?_
        refine lv_iload hx hb dX0_gather_16 (lv_at hl 0 rfl) ?_
        refine eRi (va_runV (As := [.int (nI x1), .int (nI j1)]) (rest := []) ⟨hx, hb, hml, hown, hts⟩ (c_X0_hasMark_g l D cI cB cZ cJ tx a dm d2 x1 j1 (lf_X0_gather_d3_7 a dm d0 d1 d2 d3 x1 x2 n3 hdm hx1 hx2 j1 cn y6_a28 k6 hj6 hk6 hcn c_1 n_5) (lf_X0_gather_d3_8 a dm d0 d1 d2 d3 x1 x2 n3 hdm hx1 hx2 j1 cn y6_a28 k6 hj6 hk6 hcn c_1 n_5) (lf_X0_gather_d3_9 a dm d0 d1 d2 d3 x1 x2 n3 hdm hx1 hx2 j1 cn y6_a28 k6 hj6 hk6 hcn c_1 n_5) H.size) (zV hts k_924 v_X0_hasMark ⟨Nat.le_of_ble_eq_true rfl, Nat.le_of_ble_eq_true rfl⟩) (pV (pxS hK hP hD [0, 3] (by decide) rfl) hK hP 0 rfl rfl) rfl rfl hl.1 rfl (lv_room (Nat.le_of_ble_eq_true rfl)) dX0_gather_18 ⟨Nat.le_of_ble_eq_true rfl, Nat.le_of_ble_eq_true rfl⟩) hP hS hA (fun r_10 H locs wr_10 hP hS => ?_)
        refine lv_if_eq (tgt := 59) hx hb dX0_gather_21 (by decide) (fun c_11 => ?_) (fun c_11 => ?_)
        · refine lv_iinc (v := nI (j1 + 1)) (lv' := [(6, .int (nI (j1 + 1))), (5, .int (nI cn)), (0, .ref (a 6)), (1, .int (nI x1)), (2, .int (nI x2)), (3, .int n3), (4, .ref (a 28))]) hx hb dX0_gather_59 hl (k := 0) rfl (nI_1 j1) (by decide) rfl (fun ls hl => ?_)
          refine lv_goto (tgt := 6) hx hb dX0_gather_62 (by decide) ?_
          exact ih6 (j1 + 1) cn y6_a28 H locs ls (by omega) (by omega) (lf_X0_gather_d3_12 a dm d0 d1 d2 d3 x1 x2 n3 hdm hx1 hx2 j1 cn y6_a28 k6 hj6 hk6 hcn c_1 n_5 r_10 c_11) (hP.sub [0, 1, 2, 3, 4] rfl) (hD.sub [0, 1, 2, 3, 4] (by decide) rfl) hS (lv_sub hl [0, 1, 2, 3, 4, 5, 6] rfl)
        · refine lv_aload_n hx hb dX0_gather_24 rfl (lv_at hl 2 rfl) ?_
          refine lv_iload_n hx hb dX0_gather_25 rfl (lv_at hl 4 rfl) ?_
          refine lv_iload hx hb dX0_gather_26 (lv_at hl 0 rfl) ?_
          refine eRi (va_runV (As := [.int (nI x2), .int (nI j1)]) (rest := []) ⟨hx, hb, hml, hown, hts⟩ (c_X0_hasMark_g l D cI cB cZ cJ tx a dm d2 x2 j1 (lf_X0_gather_d3_13 a dm d0 d1 d2 d3 x1 x2 n3 hdm hx1 hx2 j1 cn y6_a28 k6 hj6 hk6 hcn c_1 n_5 r_10 c_11) (lf_X0_gather_d3_14 a dm d0 d1 d2 d3 x1 x2 n3 hdm hx1 hx2 j1 cn y6_a28 k6 hj6 hk6 hcn c_1 n_5 r_10 c_11) (lf_X0_gather_d3_15 a dm d0 d1 d2 d3 x1 x2 n3 hdm hx1 hx2 j1 cn y6_a28 k6 hj6 hk6 hcn c_1 n_5 r_10 c_11) H.size) (zV hts k_924 v_X0_hasMark ⟨Nat.le_of_ble_eq_true rfl, Nat.le_of_ble_eq_true rfl⟩) (pV (pxS hK hP hD [0, 3] (by decide) rfl) hK hP 0 rfl rfl) rfl rfl hl.1 rfl (lv_room (Nat.le_of_ble_eq_true rfl)) dX0_gather_28 ⟨Nat.le_of_ble_eq_true rfl, Nat.le_of_ble_eq_true rfl⟩) hP hS hA (fun r_16 H locs wr_16 hP hS => ?_)
          refine lv_if_eq (tgt := 59) hx hb dX0_gather_31 (by decide) (fun c_17 => ?_) (fun c_17 => ?_)
          · refine lv_iinc (v := nI (j1 + 1)) (lv' := [(6, .int (nI (j1 + 1))), (5, .int (nI cn)), (0, .ref (a 6)), (1, .int (nI x1)), (2, .int (nI x2)), (3, .int n3), (4, .ref (a 28))]) hx hb dX0_gather_59 hl (k := 0) rfl (nI_1 j1) (by decide) rfl (fun ls hl => ?_)
            refine lv_goto (tgt := 6) hx hb dX0_gather_62 (by decide) ?_
            exact ih6 (j1 + 1) cn y6_a28 H locs ls (by omega) (by omega) (lf_X0_gather_d3_18 a dm d0 d1 d2 d3 x1 x2 n3 hdm hx1 hx2 j1 cn y6_a28 k6 hj6 hk6 hcn c_1 n_5 r_10 c_11 r_16 c_17) (hP.sub [0, 1, 2, 3, 4] rfl) (hD.sub [0, 1, 2, 3, 4] (by decide) rfl) hS (lv_sub hl [0, 1, 2, 3, 4, 5, 6] rfl)
          · refine lv_aload hx hb dX0_gather_34 (lv_at hl 6 rfl) ?_
            refine lv_iload hx hb dX0_gather_36 (lv_at hl 1 rfl) ?_
            refine lv_aload_n hx hb dX0_gather_38 rfl (lv_at hl 2 rfl) ?_
            refine lv_iload_n hx hb dX0_gather_39 rfl (lv_at hl 4 rfl) ?_
            refine lv_iload hx hb dX0_gather_40 (lv_at hl 0 rfl) ?_
            refine lv_iload_n hx hb dX0_gather_42 rfl (lv_at hl 5 rfl) ?_
            refine eRi (va_runV (As := [.int (nI x2), .int (nI j1), .int n3]) (rest := [.int (nI cn), .ref (a 28)]) ⟨hx, hb, hml, hown, hts⟩ (c_X0_at l D cI cB cZ cJ tx a dm d0 d1 x2 j1 n3 (lf_X0_gather_d3_19 a dm d0 d1 d2 d3 x1 x2 n3 hdm hx1 hx2 j1 cn y6_a28 k6 hj6 hk6 hcn c_1 n_5 r_10 c_11 r_16 c_17) (lf_X0_gather_d3_20 a dm d0 d1 d2 d3 x1 x2 n3 hdm hx1 hx2 j1 cn y6_a28 k6 hj6 hk6 hcn c_1 n_5 r_10 c_11 r_16 c_17) H.size) (zV hts k_955 v_X0_at ⟨Nat.le_of_ble_eq_true rfl, Nat.le_of_ble_eq_true rfl⟩) (pV (pxS hK hP hD [0, 1, 2] (by decide) rfl) hK hP 0 rfl rfl) rfl rfl hl.1 rfl (lv_room (Nat.le_of_ble_eq_true rfl)) dX0_gather_43 ⟨Nat.le_of_ble_eq_true rfl, Nat.le_of_ble_eq_true rfl⟩) hP hS hA (fun r_21 H locs wr_21 hP hS => ?_)
            refine lv_aload_n hx hb dX0_gather_46 rfl (lv_at hl 2 rfl) ?_
            refine lv_iload_n hx hb dX0_gather_47 rfl (lv_at hl 3 rfl) ?_
            refine lv_iload hx hb dX0_gather_48 (lv_at hl 0 rfl) ?_
            refine lv_iload_n hx hb dX0_gather_50 rfl (lv_at hl 5 rfl) ?_
            refine eRi (va_runV (As := [.int (nI x1), .int (nI j1), .int n3]) (rest := [.int r_21, .int (nI cn), .ref (a 28)]) ⟨hx, hb, hml, hown, hts⟩ (c_X0_at l D cI cB cZ cJ tx a dm d0 d1 x1 j1 n3 (lf_X0_gather_d3_22 a dm d0 d1 d2 d3 x1 x2 n3 hdm hx1 hx2 j1 cn y6_a28 k6 hj6 hk6 hcn c_1 n_5 r_10 c_11 r_16 c_17 r_21) (lf_X0_gather_d3_23 a dm d0 d1 d2 d3 x1 x2 n3 hdm hx1 hx2 j1 cn y6_a28 k6 hj6 hk6 hcn c_1 n_5 r_10 c_11 r_16 c_17 r_21) H.size) (zV hts k_955 v_X0_at ⟨Nat.le_of_ble_eq_true rfl, Nat.le_of_ble_eq_true rfl⟩) (pV (pxS hK hP hD [0, 1, 2] (by decide) rfl) hK hP 0 rfl rfl) rfl rfl hl.1 rfl (lv_room (Nat.le_of_ble_eq_true rfl)) dX0_gather_51 ⟨Nat.le_of_ble_eq_true rfl, Nat.le_of_ble_eq_true rfl⟩) hP hS hA (fun r_24 H locs wr_24 hP hS => ?_)
            refine lv_isub hx hb dX0_gather_54 ?_
            refine lv_topi (fun x_25 ex_25 => ?_)
            refine st_i hx hb hK hP hD hS 4 rfl (lf_X0_gather_d3_27 a dm d0 d1 d2 d3 x1 x2 n3 hdm hx1 hx2 j1 cn y6_a28 k6 hj6 hk6 hcn c_1 n_5 r_10 c_11 r_16 c_17 r_21 r_24 x_25 ex_25) dX0_gather_55 (fun f_26 H locs hP hD hS => ?_)
            have hP : va_P D vwCl [(a 6, .inr (0, [.ref (a 5), .ref (a 25), .ref (a 26), .ref (a 27), .ref (a 28), .ref (a 29), .int (nI dm)])), (a 25, .inl (cI, 1536, .inl d0)), (a 26, .inl (cI, 1536, .inl d1)), (a 27, .inl (cZ, 1536, .inl d2)), (a 28, .inl (cI, 384, .inl f_26))] H := hP
            have hD : va_D A [(a 6, .inr (0, [.ref (a 5), .ref (a 25), .ref (a 26), .ref (a 27), .ref (a 28), .ref (a 29), .int (nI dm)])), (a 25, .inl (cI, 1536, .inl d0)), (a 26, .inl (cI, 1536, .inl d1)), (a 27, .inl (cZ, 1536, .inl d2)), (a 28, .inl (cI, 384, .inl f_26))] := hD
            refine lv_iinc (v := nI (cn + 1)) (lv' := [(5, .int (nI (cn + 1))), (6, .int (nI j1)), (0, .ref (a 6)), (1, .int (nI x1)), (2, .int (nI x2)), (3, .int n3), (4, .ref (a 28))]) hx hb dX0_gather_56 hl (k := 1) rfl (nI_1 cn) (by decide) rfl (fun ls hl => ?_)
            refine lv_iinc (v := nI (j1 + 1)) (lv' := [(6, .int (nI (j1 + 1))), (5, .int (nI (cn + 1))), (0, .ref (a 6)), (1, .int (nI x1)), (2, .int (nI x2)), (3, .int n3), (4, .ref (a 28))]) hx hb dX0_gather_59 hl (k := 1) rfl (nI_1 j1) (by decide) rfl (fun ls hl => ?_)
            refine lv_goto (tgt := 6) hx hb dX0_gather_62 (by decide) ?_
            exact ih6 (j1 + 1) (cn + 1) f_26 H locs ls (by omega) (by omega) (lf_X0_gather_d3_28 a dm d0 d1 d2 d3 x1 x2 n3 hdm hx1 hx2 j1 cn y6_a28 k6 hj6 hk6 hcn c_1 n_5 r_10 c_11 r_16 c_17 r_21 r_24 x_25 ex_25 f_26) (hP.sub [0, 1, 2, 3, 4] rfl) (hD.sub [0, 1, 2, 3, 4] (by decide) rfl) hS (lv_sub hl [0, 1, 2, 3, 4, 5, 6] rfl)
  exact lp6 (384 + 1) 0 0 d3 H locs ls (by omega) (by omega) (lf_X0_gather_d3_29 a dm d0 d1 d2 d3 x1 x2 n3 hdm hx1 hx2) (hP.sub [0, 1, 2, 3, 4] rfl) (hD.sub [0, 1, 2, 3, 4] (by decide) rfl) hS (lv_sub hl [0, 1, 2, 3, 4, 5, 6] rfl)

theorem lf_X0_lowerMedian_d3_3 (a : Nat → Nat) (d3 : Nat → Int32) (x1 : Nat) (hx1 : x1 ≤ 384) (j1 : Nat) (w1 : Int32) (w2 : Int32) (k11 : Nat) (hj11 : j1 ≤ 15) (hk11 : 15 < j1 + (k11 + 1)) (c_1 : 15 ≤ nI j1) : 15 ≤ j1 := by
  exact (nI_leI (a := 15) (b := j1) (by omega) (by omega)).mp c_1
theorem lf_X0_lowerMedian_d3_5 (a : Nat → Nat) (d3 : Nat → Int32) (x1 : Nat) (hx1 : x1 ≤ 384) (j1 : Nat) (w1 : Int32) (w2 : Int32) (k11 : Nat) (hj11 : j1 ≤ 15) (hk11 : 15 < j1 + (k11 + 1)) (c_1 : ¬ 15 ≤ nI j1) : j1 < 15 := by
  exact Nat.lt_of_not_le (fun q => c_1 ((nI_leI (a := 15) (b := j1) (by omega) (by omega)).mpr q))
theorem lf_X0_lowerMedian_d3_8 (a : Nat → Nat) (d3 : Nat → Int32) (x1 : Nat) (hx1 : x1 ≤ 384) (j1 : Nat) (w1 : Int32) (w2 : Int32) (k11 : Nat) (hj11 : j1 ≤ 15) (hk11 : 15 < j1 + (k11 + 1)) (c_1 : ¬ 15 ≤ nI j1) (n_4 : j1 < 15) (c_6 : ¬ w2 ≤ w1) (x_7 : Int32) (ex_7 : x_7 = w1 + w2) : ¬ 2 = 0 := by
  first | assumption | omega | decide
theorem lf_X0_lowerMedian_d3_12 (a : Nat → Nat) (d3 : Nat → Int32) (x1 : Nat) (hx1 : x1 ≤ 384) (j1 : Nat) (w1 : Int32) (w2 : Int32) (k11 : Nat) (hj11 : j1 ≤ 15) (hk11 : 15 < j1 + (k11 + 1)) (c_1 : ¬ 15 ≤ nI j1) (n_4 : j1 < 15) (c_6 : ¬ w2 ≤ w1) (x_7 : Int32) (ex_7 : x_7 = w1 + w2) (r_9 : Int32) (j2 : Nat) (w3 : Int32) (k38 : Nat) (hj38 : j2 ≤ x1) (hk38 : x1 < j2 + (k38 + 1)) (c_10 : nI x1 ≤ nI j2) : x1 ≤ j2 := by
  exact (nI_leI (a := x1) (b := j2) (by omega) (by omega)).mp c_10
theorem lf_X0_lowerMedian_d3_17 (a : Nat → Nat) (d3 : Nat → Int32) (x1 : Nat) (hx1 : x1 ≤ 384) (j1 : Nat) (w1 : Int32) (w2 : Int32) (k11 : Nat) (hj11 : j1 ≤ 15) (hk11 : 15 < j1 + (k11 + 1)) (c_1 : ¬ 15 ≤ nI j1) (n_4 : j1 < 15) (c_6 : ¬ w2 ≤ w1) (x_7 : Int32) (ex_7 : x_7 = w1 + w2) (r_9 : Int32) (j2 : Nat) (w3 : Int32) (k38 : Nat) (hj38 : j2 ≤ x1) (hk38 : x1 < j2 + (k38 + 1)) (c_10 : ¬ nI x1 ≤ nI j2) : j2 < x1 := by
  exact Nat.lt_of_not_le (fun q => c_10 ((nI_leI (a := x1) (b := j2) (by omega) (by omega)).mpr q))
theorem lf_X0_lowerMedian_d3_18 (a : Nat → Nat) (d3 : Nat → Int32) (x1 : Nat) (hx1 : x1 ≤ 384) (j1 : Nat) (w1 : Int32) (w2 : Int32) (k11 : Nat) (hj11 : j1 ≤ 15) (hk11 : 15 < j1 + (k11 + 1)) (c_1 : ¬ 15 ≤ nI j1) (n_4 : j1 < 15) (c_6 : ¬ w2 ≤ w1) (x_7 : Int32) (ex_7 : x_7 = w1 + w2) (r_9 : Int32) (j2 : Nat) (w3 : Int32) (k38 : Nat) (hj38 : j2 ≤ x1) (hk38 : x1 < j2 + (k38 + 1)) (c_10 : ¬ nI x1 ≤ nI j2) (n_16 : j2 < x1) : vp_in (nI j2) 384 := by
  first | exact vp_in_nI (by omega) (by decide) | (unfold vp_in; decide)
set_option maxHeartbeats 4000000 in
set_option maxRecDepth 100000 in
theorem c_X0_lowerMedian_d3 (l : Launch) (D : va_G) (cI cB cZ cJ : ClassId) (tx : List (ClassId × FieldType)) (a : Nat → Nat) (d3 : Nat → Int32) (x1 : Nat) (hx1 : x1 ≤ 384) : RdI l D cI cB cZ cJ tx yX0_lowerMedian cX0_lowerMedian 8 (some .int) 1 [.ref (a 28), .int (nI x1)] [(a 28, .inl (cI, 384, .inl d3))] (fun r => True) := by
  refine rdi_of2 (by decide) (Nat.le_of_ble_eq_true rfl) ?_
  intro p e s m below meth c A ls H locs hC hK hP hD hA hS hl
  obtain ⟨hx, hb, hr, hml, hown, hts, hlocks, hin⟩ := hC
  have hown : s.vm.findClass RX0 = some m.cls := hown
  have hl : lv_has ls 8 [(0, .ref (a 28)), (1, .int (nI x1))] := hl
  refine lv_sipush (v := (-12000)) hx hb dX0_lowerMedian_0 (by decide) ?_
  refine lv_istore_n (lv' := [(2, .int (-12000)), (0, .ref (a 28)), (1, .int (nI x1))]) hx hb dX0_lowerMedian_3 rfl hl (by decide) rfl (fun ls hl => ?_)
  refine lv_sipush (v := 12000) hx hb dX0_lowerMedian_4 (by decide) ?_
  refine lv_istore_n (lv' := [(3, .int 12000), (2, .int (-12000)), (0, .ref (a 28)), (1, .int (nI x1))]) hx hb dX0_lowerMedian_7 rfl hl (by decide) rfl (fun ls hl => ?_)
  refine lv_iconst (v := 0) hx hb dX0_lowerMedian_8 (by decide) ?_
  refine lv_istore (lv' := [(4, .int 0), (3, .int 12000), (2, .int (-12000)), (0, .ref (a 28)), (1, .int (nI x1))]) hx hb dX0_lowerMedian_9 hl (by decide) rfl (fun ls hl => ?_)
  have lp11 : ∀ (k11 : Nat) (j1 : Nat) (w1 : Int32) (w2 : Int32) (H : Heap) (locs : List Loc) (ls : Array Slot), j1 ≤ 15 → 15 < j1 + k11 → va_P D vwCl [(a 28, .inl (cI, 384, .inl d3))] H → va_S A s.heap H locs → lv_has ls 8 [(4, .int (nI j1)), (3, .int w2), (2, .int w1), (0, .ref (a 28)), (1, .int (nI x1))] → W p l e (rmX 1 0 0) s m ([.ref (a 28), .int (nI x1)] : List Value).toArray below meth c H locs 0 0 (MQ below (va_Qi (fun r (_ : Unit) => (fun r => True) r) (fun _ _ => True) A) ([.ref (a 28), .int (nI x1)] : List Value).toArray s 0 0 A) (F0 m 11 ls []) := by
    intro k11
    induction k11 with
    | zero =>
      intro j1 w1 w2 H locs ls hj11 hk11  hP hS hl
      exact absurd hk11 (by omega)
    | succ k11 ih11 =>
      intro j1 w1 w2 H locs ls hj11 hk11  hP hS hl
      refine lv_iload hx hb dX0_lowerMedian_11 (lv_at hl 0 rfl) ?_
      refine lv_bipush (v := 15) hx hb dX0_lowerMedian_13 (by decide) ?_
      refine lv_icmp_ge (tgt := 94) hx hb dX0_lowerMedian_15 (by decide) (fun c_1 => ?_) (fun c_1 => ?_)
      · have n_2 : 15 ≤ j1 := (lf_X0_lowerMedian_d3_3 a d3 x1 hx1 j1 w1 w2 k11 hj11 hk11 c_1)
        refine lv_iload_n hx hb dX0_lowerMedian_94 rfl (lv_at hl 2 rfl) ?_
        exact W.iret (v := w1) hx hb hr (fun tt9 ht hW => ⟨⟨(w1 : Int32), (), rfl, trivial, trivial⟩, hS.F ht⟩) hS.2.2 dX0_lowerMedian_95 hlocks
      · have n_4 : j1 < 15 := (lf_X0_lowerMedian_d3_5 a d3 x1 hx1 j1 w1 w2 k11 hj11 hk11 c_1)
        refine lv_iload_n hx hb dX0_lowerMedian_18 rfl (lv_at hl 2 rfl) ?_
        refine lv_iload_n hx hb dX0_lowerMedian_19 rfl (lv_at hl 1 rfl) ?_
        refine lv_icmp_ge (tgt := 94) hx hb dX0_lowerMedian_20 (by decide) (fun c_6 => ?_) (fun c_6 => ?_)
        · refine lv_iload_n hx hb dX0_lowerMedian_94 rfl (lv_at hl 2 rfl) ?_
          exact W.iret (v := w1) hx hb hr (fun tt9 ht hW => ⟨⟨(w1 : Int32), (), rfl, trivial, trivial⟩, hS.F ht⟩) hS.2.2 dX0_lowerMedian_95 hlocks
        · refine lv_iload_n hx hb dX0_lowerMedian_23 rfl (lv_at hl 2 rfl) ?_
          refine lv_iload_n hx hb dX0_lowerMedian_24 rfl (lv_at hl 1 rfl) ?_
          refine lv_iadd hx hb dX0_lowerMedian_25 ?_
          refine lv_topi (fun x_7 ex_7 => ?_)
          refine lv_iconst (v := 2) hx hb dX0_lowerMedian_26 (by decide) ?_
          refine eRi (va_runS (As := [.int x_7, .int 2]) (rest := []) ⟨hx, hb, hml, hown, hts⟩ (c_J9_floorDiv l D cI cB cZ cJ tx x_7 2 (lf_X0_lowerMedian_d3_8 a d3 x1 hx1 j1 w1 w2 k11 hj11 hk11 c_1 n_4 c_6 x_7 ex_7) H.size) (zS hts k_963 v_J9_floorDiv_7cf53 ⟨Nat.le_of_ble_eq_true rfl, Nat.le_of_ble_eq_true rfl⟩) (px0 hK) rfl rfl hl.1 rfl (lv_room (Nat.le_of_ble_eq_true rfl)) dX0_lowerMedian_27 ⟨Nat.le_of_ble_eq_true rfl, Nat.le_of_ble_eq_true rfl⟩) hP hS hA (fun r_9 H locs wr_9 hP hS => ?_)
          refine lv_istore (lv' := [(5, .int r_9), (4, .int (nI j1)), (3, .int w2), (2, .int w1), (0, .ref (a 28)), (1, .int (nI x1))]) hx hb dX0_lowerMedian_30 hl (by decide) rfl (fun ls hl => ?_)
          refine lv_iconst (v := 0) hx hb dX0_lowerMedian_32 (by decide) ?_
          refine lv_istore (lv' := [(6, .int 0), (5, .int r_9), (4, .int (nI j1)), (3, .int w2), (2, .int w1), (0, .ref (a 28)), (1, .int (nI x1))]) hx hb dX0_lowerMedian_33 hl (by decide) rfl (fun ls hl => ?_)
          refine lv_iconst (v := 0) hx hb dX0_lowerMedian_35 (by decide) ?_
          refine lv_istore (lv' := [(7, .int 0), (6, .int 0), (5, .int r_9), (4, .int (nI j1)), (3, .int w2), (2, .int w1), (0, .ref (a 28)), (1, .int (nI x1))]) hx hb dX0_lowerMedian_36 hl (by decide) rfl (fun ls hl => ?_)
          have lp38 : ∀ (k38 : Nat) (j2 : Nat) (w3 : Int32) (H : Heap) (locs : List Loc) (ls : Array Slot), j2 ≤ x1 → x1 < j2 + k38 → va_P D vwCl [(a 28, .inl (cI, 384, .inl d3))] H → va_S A s.heap H locs → lv_has ls 8 [(7, .int (nI j2)), (6, .int w3), (5, .int r_9), (4, .int (nI j1)), (3, .int w2), (2, .int w1), (0, .ref (a 28)), (1, .int (nI x1))] → W p l e (rmX 1 0 0) s m ([.ref (a 28), .int (nI x1)] : List Value).toArray below meth c H locs 0 0 (MQ below (va_Qi (fun r (_ : Unit) => (fun r => True) r) (fun _ _ => True) A) ([.ref (a 28), .int (nI x1)] : List Value).toArray s 0 0 A) (F0 m 38 ls []) := by
            intro k38
            induction k38 with
            | zero =>
              intro j2 w3 H locs ls hj38 hk38  hP hS hl
              exact absurd hk38 (by omega)
            | succ k38 ih38 =>
              intro j2 w3 H locs ls hj38 hk38  hP hS hl
              refine lv_iload hx hb dX0_lowerMedian_38 (lv_at hl 0 rfl) ?_
              refine lv_iload_n hx hb dX0_lowerMedian_40 rfl (lv_at hl 7 rfl) ?_
              refine lv_icmp_ge (tgt := 69) hx hb dX0_lowerMedian_41 (by decide) (fun c_10 => ?_) (fun c_10 => ?_)
              · have n_11 : x1 ≤ j2 := (lf_X0_lowerMedian_d3_12 a d3 x1 hx1 j1 w1 w2 k11 hj11 hk11 c_1 n_4 c_6 x_7 ex_7 r_9 j2 w3 k38 hj38 hk38 c_10)
                refine lv_iconst (v := 2) hx hb dX0_lowerMedian_69 (by decide) ?_
                refine lv_iload hx hb dX0_lowerMedian_70 (lv_at hl 1 rfl) ?_
                refine lv_imul hx hb dX0_lowerMedian_72 ?_
                refine lv_topi (fun x_13 ex_13 => ?_)
                refine lv_iload_n hx hb dX0_lowerMedian_73 rfl (lv_at hl 7 rfl) ?_
                refine lv_icmp_lt (tgt := 83) hx hb dX0_lowerMedian_74 (by decide) (fun c_14 => ?_) (fun c_14 => ?_)
                · refine lv_iload hx hb dX0_lowerMedian_83 (lv_at hl 2 rfl) ?_
                  refine lv_iconst (v := 1) hx hb dX0_lowerMedian_85 (by decide) ?_
                  refine lv_iadd hx hb dX0_lowerMedian_86 ?_
                  refine lv_topi (fun x_15 ex_15 => ?_)
                  refine lv_istore_n (lv' := [(2, .int x_15), (7, .int (nI j2)), (6, .int w3), (5, .int r_9), (4, .int (nI j1)), (3, .int w2), (0, .ref (a 28)), (1, .int (nI x1))]) hx hb dX0_lowerMedian_87 rfl hl (by decide) rfl (fun ls hl => ?_)
                  refine lv_iinc (v := nI (j1 + 1)) (lv' := [(4, .int (nI (j1 + 1))), (2, .int x_15), (7, .int (nI j2)), (6, .int w3), (5, .int r_9), (3, .int w2), (0, .ref (a 28)), (1, .int (nI x1))]) hx hb dX0_lowerMedian_88 hl (k := 4) rfl (nI_1 j1) (by decide) rfl (fun ls hl => ?_)
                  refine lv_goto (tgt := 11) hx hb dX0_lowerMedian_91 (by decide) ?_
                  exact ih11 (j1 + 1) x_15 w2 H locs ls (by omega) (by omega)  (hP.sub [0] rfl)  hS (lv_sub hl [0, 5, 1, 6, 7] rfl)
                · refine lv_iload hx hb dX0_lowerMedian_77 (lv_at hl 2 rfl) ?_
                  refine lv_istore_n (lv' := [(3, .int r_9), (7, .int (nI j2)), (6, .int w3), (5, .int r_9), (4, .int (nI j1)), (2, .int w1), (0, .ref (a 28)), (1, .int (nI x1))]) hx hb dX0_lowerMedian_79 rfl hl (by decide) rfl (fun ls hl => ?_)
                  refine lv_goto (tgt := 88) hx hb dX0_lowerMedian_80 (by decide) ?_
                  refine lv_iinc (v := nI (j1 + 1)) (lv' := [(4, .int (nI (j1 + 1))), (3, .int r_9), (7, .int (nI j2)), (6, .int w3), (5, .int r_9), (2, .int w1), (0, .ref (a 28)), (1, .int (nI x1))]) hx hb dX0_lowerMedian_88 hl (k := 4) rfl (nI_1 j1) (by decide) rfl (fun ls hl => ?_)
                  refine lv_goto (tgt := 11) hx hb dX0_lowerMedian_91 (by decide) ?_
                  exact ih11 (j1 + 1) w1 r_9 H locs ls (by omega) (by omega)  (hP.sub [0] rfl)  hS (lv_sub hl [0, 1, 5, 6, 7] rfl)
              · have n_16 : j2 < x1 := (lf_X0_lowerMedian_d3_17 a d3 x1 hx1 j1 w1 w2 k11 hj11 hk11 c_1 n_4 c_6 x_7 ex_7 r_9 j2 w3 k38 hj38 hk38 c_10)
                refine lv_iload hx hb dX0_lowerMedian_44 (lv_at hl 1 rfl) ?_
                refine lv_aload_n hx hb dX0_lowerMedian_46 rfl (lv_at hl 6 rfl) ?_
                refine lv_iload hx hb dX0_lowerMedian_47 (lv_at hl 0 rfl) ?_
                refine ld_i hx hb hK hP 0 rfl (lf_X0_lowerMedian_d3_18 a d3 x1 hx1 j1 w1 w2 k11 hj11 hk11 c_1 n_4 c_6 x_7 ex_7 r_9 j2 w3 k38 hj38 hk38 c_10 n_16) dX0_lowerMedian_49 (fun x_19 => ?_)
                refine lv_iload hx hb dX0_lowerMedian_50 (lv_at hl 2 rfl) ?_
                refine lv_icmp_gt (tgt := 59) hx hb dX0_lowerMedian_52 (by decide) (fun c_20 => ?_) (fun c_20 => ?_)
                · refine lv_iconst (v := 0) hx hb dX0_lowerMedian_59 (by decide) ?_
                  refine lv_iadd hx hb dX0_lowerMedian_60 ?_
                  refine lv_topi (fun x_21 ex_21 => ?_)
                  refine lv_istore (lv' := [(6, .int x_21), (7, .int (nI j2)), (5, .int r_9), (4, .int (nI j1)), (3, .int w2), (2, .int w1), (0, .ref (a 28)), (1, .int (nI x1))]) hx hb dX0_lowerMedian_61 hl (by decide) rfl (fun ls hl => ?_)
                  refine lv_iinc (v := nI (j2 + 1)) (lv' := [(7, .int (nI (j2 + 1))), (6, .int x_21), (5, .int r_9), (4, .int (nI j1)), (3, .int w2), (2, .int w1), (0, .ref (a 28)), (1, .int (nI x1))]) hx hb dX0_lowerMedian_63 hl (k := 1) rfl (nI_1 j2) (by decide) rfl (fun ls hl => ?_)
                  refine lv_goto (tgt := 38) hx hb dX0_lowerMedian_66 (by decide) ?_
                  exact ih38 (j2 + 1) x_21 H locs ls (by omega) (by omega)  (hP.sub [0] rfl)  hS (lv_sub hl [0, 1, 2, 3, 4, 5, 6, 7] rfl)
                · refine lv_iconst (v := 1) hx hb dX0_lowerMedian_55 (by decide) ?_
                  refine lv_goto (tgt := 60) hx hb dX0_lowerMedian_56 (by decide) ?_
                  refine lv_iadd hx hb dX0_lowerMedian_60 ?_
                  refine lv_topi (fun x_22 ex_22 => ?_)
                  refine lv_istore (lv' := [(6, .int x_22), (7, .int (nI j2)), (5, .int r_9), (4, .int (nI j1)), (3, .int w2), (2, .int w1), (0, .ref (a 28)), (1, .int (nI x1))]) hx hb dX0_lowerMedian_61 hl (by decide) rfl (fun ls hl => ?_)
                  refine lv_iinc (v := nI (j2 + 1)) (lv' := [(7, .int (nI (j2 + 1))), (6, .int x_22), (5, .int r_9), (4, .int (nI j1)), (3, .int w2), (2, .int w1), (0, .ref (a 28)), (1, .int (nI x1))]) hx hb dX0_lowerMedian_63 hl (k := 1) rfl (nI_1 j2) (by decide) rfl (fun ls hl => ?_)
                  refine lv_goto (tgt := 38) hx hb dX0_lowerMedian_66 (by decide) ?_
                  exact ih38 (j2 + 1) x_22 H locs ls (by omega) (by omega)  (hP.sub [0] rfl)  hS (lv_sub hl [0, 1, 2, 3, 4, 5, 6, 7] rfl)
          exact lp38 (x1 + 1) 0 0 H locs ls (by omega) (by omega)  (hP.sub [0] rfl)  hS (lv_sub hl [0, 1, 2, 3, 4, 5, 6, 7] rfl)
  exact lp11 (15 + 1) 0 (-12000) 12000 H locs ls (by omega) (by omega)  (hP.sub [0] rfl)  hS (lv_sub hl [0, 1, 2, 3, 4] rfl)

theorem lf_X0_gather_d4_3 (a : Nat → Nat) (dm : Nat) (d0 : Nat → Int32) (d1 : Nat → Int32) (d2 : Nat → Int32) (d4 : Nat → Int32) (x1 : Nat) (x2 : Nat) (n3 : Int32) (hdm : dm ≤ 4) (hx1 : x1 < dm) (hx2 : x2 < dm) (j1 : Nat) (cn : Nat) (y6_a29 : Nat → Int32) (k6 : Nat) (hj6 : j1 ≤ 384) (hk6 : 384 < j1 + (k6 + 1)) (hcn : cn ≤ j1) (c_1 : 384 ≤ nI j1) : 384 ≤ j1 := by
  exact (nI_leI (a := 384) (b := j1) (by omega) (by omega)).mp c_1
theorem lf_X0_gather_d4_4 (a : Nat → Nat) (dm : Nat) (d0 : Nat → Int32) (d1 : Nat → Int32) (d2 : Nat → Int32) (d4 : Nat → Int32) (x1 : Nat) (x2 : Nat) (n3 : Int32) (hdm : dm ≤ 4) (hx1 : x1 < dm) (hx2 : x2 < dm) (j1 : Nat) (cn : Nat) (y6_a29 : Nat → Int32) (k6 : Nat) (hj6 : j1 ≤ 384) (hk6 : 384 < j1 + (k6 + 1)) (hcn : cn ≤ j1) (c_1 : 384 ≤ nI j1) (n_2 : 384 ≤ j1) : ∃ m : Nat, m ≤ 384 ∧ (nI cn : Int32) = nI m := by
  exact ⟨_, by omega, rfl⟩
theorem lf_X0_gather_d4_6 (a : Nat → Nat) (dm : Nat) (d0 : Nat → Int32) (d1 : Nat → Int32) (d2 : Nat → Int32) (d4 : Nat → Int32) (x1 : Nat) (x2 : Nat) (n3 : Int32) (hdm : dm ≤ 4) (hx1 : x1 < dm) (hx2 : x2 < dm) (j1 : Nat) (cn : Nat) (y6_a29 : Nat → Int32) (k6 : Nat) (hj6 : j1 ≤ 384) (hk6 : 384 < j1 + (k6 + 1)) (hcn : cn ≤ j1) (c_1 : ¬ 384 ≤ nI j1) : j1 < 384 := by
  exact Nat.lt_of_not_le (fun q => c_1 ((nI_leI (a := 384) (b := j1) (by omega) (by omega)).mpr q))
theorem lf_X0_gather_d4_7 (a : Nat → Nat) (dm : Nat) (d0 : Nat → Int32) (d1 : Nat → Int32) (d2 : Nat → Int32) (d4 : Nat → Int32) (x1 : Nat) (x2 : Nat) (n3 : Int32) (hdm : dm ≤ 4) (hx1 : x1 < dm) (hx2 : x2 < dm) (j1 : Nat) (cn : Nat) (y6_a29 : Nat → Int32) (k6 : Nat) (hj6 : j1 ≤ 384) (hk6 : 384 < j1 + (k6 + 1)) (hcn : cn ≤ j1) (c_1 : ¬ 384 ≤ nI j1) (n_5 : j1 < 384) : dm ≤ 4 := by
  first | assumption | omega | decide
theorem lf_X0_gather_d4_8 (a : Nat → Nat) (dm : Nat) (d0 : Nat → Int32) (d1 : Nat → Int32) (d2 : Nat → Int32) (d4 : Nat → Int32) (x1 : Nat) (x2 : Nat) (n3 : Int32) (hdm : dm ≤ 4) (hx1 : x1 < dm) (hx2 : x2 < dm) (j1 : Nat) (cn : Nat) (y6_a29 : Nat → Int32) (k6 : Nat) (hj6 : j1 ≤ 384) (hk6 : 384 < j1 + (k6 + 1)) (hcn : cn ≤ j1) (c_1 : ¬ 384 ≤ nI j1) (n_5 : j1 < 384) : x1 < dm := by
  first | assumption | omega | decide
theorem lf_X0_gather_d4_9 (a : Nat → Nat) (dm : Nat) (d0 : Nat → Int32) (d1 : Nat → Int32) (d2 : Nat → Int32) (d4 : Nat → Int32) (x1 : Nat) (x2 : Nat) (n3 : Int32) (hdm : dm ≤ 4) (hx1 : x1 < dm) (hx2 : x2 < dm) (j1 : Nat) (cn : Nat) (y6_a29 : Nat → Int32) (k6 : Nat) (hj6 : j1 ≤ 384) (hk6 : 384 < j1 + (k6 + 1)) (hcn : cn ≤ j1) (c_1 : ¬ 384 ≤ nI j1) (n_5 : j1 < 384) : j1 < 384 := by
  first | assumption | omega | decide
theorem lf_X0_gather_d4_12 (a : Nat → Nat) (dm : Nat) (d0 : Nat → Int32) (d1 : Nat → Int32) (d2 : Nat → Int32) (d4 : Nat → Int32) (x1 : Nat) (x2 : Nat) (n3 : Int32) (hdm : dm ≤ 4) (hx1 : x1 < dm) (hx2 : x2 < dm) (j1 : Nat) (cn : Nat) (y6_a29 : Nat → Int32) (k6 : Nat) (hj6 : j1 ≤ 384) (hk6 : 384 < j1 + (k6 + 1)) (hcn : cn ≤ j1) (c_1 : ¬ 384 ≤ nI j1) (n_5 : j1 < 384) (r_10 : Int32) (c_11 : r_10 = 0) : cn ≤ (j1 + 1) := by
  first | assumption | omega
theorem lf_X0_gather_d4_13 (a : Nat → Nat) (dm : Nat) (d0 : Nat → Int32) (d1 : Nat → Int32) (d2 : Nat → Int32) (d4 : Nat → Int32) (x1 : Nat) (x2 : Nat) (n3 : Int32) (hdm : dm ≤ 4) (hx1 : x1 < dm) (hx2 : x2 < dm) (j1 : Nat) (cn : Nat) (y6_a29 : Nat → Int32) (k6 : Nat) (hj6 : j1 ≤ 384) (hk6 : 384 < j1 + (k6 + 1)) (hcn : cn ≤ j1) (c_1 : ¬ 384 ≤ nI j1) (n_5 : j1 < 384) (r_10 : Int32) (c_11 : ¬ r_10 = 0) : dm ≤ 4 := by
  first | assumption | omega | decide
theorem lf_X0_gather_d4_14 (a : Nat → Nat) (dm : Nat) (d0 : Nat → Int32) (d1 : Nat → Int32) (d2 : Nat → Int32) (d4 : Nat → Int32) (x1 : Nat) (x2 : Nat) (n3 : Int32) (hdm : dm ≤ 4) (hx1 : x1 < dm) (hx2 : x2 < dm) (j1 : Nat) (cn : Nat) (y6_a29 : Nat → Int32) (k6 : Nat) (hj6 : j1 ≤ 384) (hk6 : 384 < j1 + (k6 + 1)) (hcn : cn ≤ j1) (c_1 : ¬ 384 ≤ nI j1) (n_5 : j1 < 384) (r_10 : Int32) (c_11 : ¬ r_10 = 0) : j1 < dm := by
  first | assumption | omega | decide
theorem lf_X0_gather_d4_15 (a : Nat → Nat) (dm : Nat) (d0 : Nat → Int32) (d1 : Nat → Int32) (d2 : Nat → Int32) (d4 : Nat → Int32) (x1 : Nat) (x2 : Nat) (n3 : Int32) (hdm : dm ≤ 4) (hx1 : x1 < dm) (hx2 : x2 < dm) (j1 : Nat) (cn : Nat) (y6_a29 : Nat → Int32) (k6 : Nat) (hj6 : j1 ≤ 384) (hk6 : 384 < j1 + (k6 + 1)) (hcn : cn ≤ j1) (c_1 : ¬ 384 ≤ nI j1) (n_5 : j1 < 384) (r_10 : Int32) (c_11 : ¬ r_10 = 0) : j1 < 384 := by
  first | assumption | omega | decide
theorem lf_X0_gather_d4_18 (a : Nat → Nat) (dm : Nat) (d0 : Nat → Int32) (d1 : Nat → Int32) (d2 : Nat → Int32) (d4 : Nat → Int32) (x1 : Nat) (x2 : Nat) (n3 : Int32) (hdm : dm ≤ 4) (hx1 : x1 < dm) (hx2 : x2 < dm) (j1 : Nat) (cn : Nat) (y6_a29 : Nat → Int32) (k6 : Nat) (hj6 : j1 ≤ 384) (hk6 : 384 < j1 + (k6 + 1)) (hcn : cn ≤ j1) (c_1 : ¬ 384 ≤ nI j1) (n_5 : j1 < 384) (r_10 : Int32) (c_11 : ¬ r_10 = 0) (r_16 : Int32) (c_17 : r_16 = 0) : cn ≤ (j1 + 1) := by
  first | assumption | omega
theorem lf_X0_gather_d4_19 (a : Nat → Nat) (dm : Nat) (d0 : Nat → Int32) (d1 : Nat → Int32) (d2 : Nat → Int32) (d4 : Nat → Int32) (x1 : Nat) (x2 : Nat) (n3 : Int32) (hdm : dm ≤ 4) (hx1 : x1 < dm) (hx2 : x2 < dm) (j1 : Nat) (cn : Nat) (y6_a29 : Nat → Int32) (k6 : Nat) (hj6 : j1 ≤ 384) (hk6 : 384 < j1 + (k6 + 1)) (hcn : cn ≤ j1) (c_1 : ¬ 384 ≤ nI j1) (n_5 : j1 < 384) (r_10 : Int32) (c_11 : ¬ r_10 = 0) (r_16 : Int32) (c_17 : ¬ r_16 = 0) : j1 < 4 := by
  first | assumption | omega | decide
theorem lf_X0_gather_d4_20 (a : Nat → Nat) (dm : Nat) (d0 : Nat → Int32) (d1 : Nat → Int32) (d2 : Nat → Int32) (d4 : Nat → Int32) (x1 : Nat) (x2 : Nat) (n3 : Int32) (hdm : dm ≤ 4) (hx1 : x1 < dm) (hx2 : x2 < dm) (j1 : Nat) (cn : Nat) (y6_a29 : Nat → Int32) (k6 : Nat) (hj6 : j1 ≤ 384) (hk6 : 384 < j1 + (k6 + 1)) (hcn : cn ≤ j1) (c_1 : ¬ 384 ≤ nI j1) (n_5 : j1 < 384) (r_10 : Int32) (c_11 : ¬ r_10 = 0) (r_16 : Int32) (c_17 : ¬ r_16 = 0) : j1 < 384 := by
  first | assumption | omega | decide
theorem lf_X0_gather_d4_22 (a : Nat → Nat) (dm : Nat) (d0 : Nat → Int32) (d1 : Nat → Int32) (d2 : Nat → Int32) (d4 : Nat → Int32) (x1 : Nat) (x2 : Nat) (n3 : Int32) (hdm : dm ≤ 4) (hx1 : x1 < dm) (hx2 : x2 < dm) (j1 : Nat) (cn : Nat) (y6_a29 : Nat → Int32) (k6 : Nat) (hj6 : j1 ≤ 384) (hk6 : 384 < j1 + (k6 + 1)) (hcn : cn ≤ j1) (c_1 : ¬ 384 ≤ nI j1) (n_5 : j1 < 384) (r_10 : Int32) (c_11 : ¬ r_10 = 0) (r_16 : Int32) (c_17 : ¬ r_16 = 0) (r_21 : Int32) : x1 < 4 := by
  first | assumption | omega | decide
theorem lf_X0_gather_d4_23 (a : Nat → Nat) (dm : Nat) (d0 : Nat → Int32) (d1 : Nat → Int32) (d2 : Nat → Int32) (d4 : Nat → Int32) (x1 : Nat) (x2 : Nat) (n3 : Int32) (hdm : dm ≤ 4) (hx1 : x1 < dm) (hx2 : x2 < dm) (j1 : Nat) (cn : Nat) (y6_a29 : Nat → Int32) (k6 : Nat) (hj6 : j1 ≤ 384) (hk6 : 384 < j1 + (k6 + 1)) (hcn : cn ≤ j1) (c_1 : ¬ 384 ≤ nI j1) (n_5 : j1 < 384) (r_10 : Int32) (c_11 : ¬ r_10 = 0) (r_16 : Int32) (c_17 : ¬ r_16 = 0) (r_21 : Int32) : j1 < 384 := by
  first | assumption | omega | decide
theorem lf_X0_gather_d4_27 (a : Nat → Nat) (dm : Nat) (d0 : Nat → Int32) (d1 : Nat → Int32) (d2 : Nat → Int32) (d4 : Nat → Int32) (x1 : Nat) (x2 : Nat) (n3 : Int32) (hdm : dm ≤ 4) (hx1 : x1 < dm) (hx2 : x2 < dm) (j1 : Nat) (cn : Nat) (y6_a29 : Nat → Int32) (k6 : Nat) (hj6 : j1 ≤ 384) (hk6 : 384 < j1 + (k6 + 1)) (hcn : cn ≤ j1) (c_1 : ¬ 384 ≤ nI j1) (n_5 : j1 < 384) (r_10 : Int32) (c_11 : ¬ r_10 = 0) (r_16 : Int32) (c_17 : ¬ r_16 = 0) (r_21 : Int32) (r_24 : Int32) (x_25 : Int32) (ex_25 : x_25 = r_21 - r_24) : vp_in (nI cn) 384 := by
  first | exact vp_in_nI (by omega) (by decide) | (unfold vp_in; decide)
theorem lf_X0_gather_d4_28 (a : Nat → Nat) (dm : Nat) (d0 : Nat → Int32) (d1 : Nat → Int32) (d2 : Nat → Int32) (d4 : Nat → Int32) (x1 : Nat) (x2 : Nat) (n3 : Int32) (hdm : dm ≤ 4) (hx1 : x1 < dm) (hx2 : x2 < dm) (j1 : Nat) (cn : Nat) (y6_a29 : Nat → Int32) (k6 : Nat) (hj6 : j1 ≤ 384) (hk6 : 384 < j1 + (k6 + 1)) (hcn : cn ≤ j1) (c_1 : ¬ 384 ≤ nI j1) (n_5 : j1 < 384) (r_10 : Int32) (c_11 : ¬ r_10 = 0) (r_16 : Int32) (c_17 : ¬ r_16 = 0) (r_21 : Int32) (r_24 : Int32) (x_25 : Int32) (ex_25 : x_25 = r_21 - r_24) (f_26 : Nat → Int32) : ((cn + 1)) ≤ (j1 + 1) := by
  first | assumption | omega
theorem lf_X0_gather_d4_29 (a : Nat → Nat) (dm : Nat) (d0 : Nat → Int32) (d1 : Nat → Int32) (d2 : Nat → Int32) (d4 : Nat → Int32) (x1 : Nat) (x2 : Nat) (n3 : Int32) (hdm : dm ≤ 4) (hx1 : x1 < dm) (hx2 : x2 < dm) : 0 ≤ 0 := by
  first | assumption | omega
set_option maxHeartbeats 4000000 in
set_option maxRecDepth 100000 in
theorem c_X0_gather_d4 (l : Launch) (D : va_G) (cI cB cZ cJ : ClassId) (tx : List (ClassId × FieldType)) (a : Nat → Nat) (dm : Nat) (d0 : Nat → Int32) (d1 : Nat → Int32) (d2 : Nat → Int32) (d4 : Nat → Int32) (x1 : Nat) (x2 : Nat) (n3 : Int32) (hdm : dm ≤ 4) (hx1 : x1 < dm) (hx2 : x2 < dm) : WrI l D cI cB cZ cJ tx yX0_gather cX0_gather 7 (some .int) 3 0 0 [.ref (a 6), .int (nI x1), .int (nI x2), .int n3, .ref (a 29)] [(a 6, .inr (0, [.ref (a 5), .ref (a 25), .ref (a 26), .ref (a 27), .ref (a 28), .ref (a 29), .int (nI dm)])), (a 25, .inl (cI, 1536, .inl d0)), (a 26, .inl (cI, 1536, .inl d1)), (a 27, .inl (cZ, 1536, .inl d2)), (a 29, .inl (cI, 384, .inl d4))] (fun (r : Int32) (v : (Nat → Int32)) => ∃ m : Nat, m ≤ 384 ∧ r = nI m) (fun v => [(a 6, .inr (0, [.ref (a 5), .ref (a 25), .ref (a 26), .ref (a 27), .ref (a 28), .ref (a 29), .int (nI dm)])), (a 25, .inl (cI, 1536, .inl d0)), (a 26, .inl (cI, 1536, .inl d1)), (a 27, .inl (cZ, 1536, .inl d2)), (a 29, .inl (cI, 384, .inl v))]) := by
  refine wri_of2 (by decide) (Nat.le_of_ble_eq_true rfl) ?_
  intro p e s m below meth c A ls H locs hC hK hP hD hA hS hl
  obtain ⟨hx, hb, hr, hml, hown, hts, hlocks, hin⟩ := hC
  have hown : s.vm.findClass RX0 = some m.cls := hown
  have hl : lv_has ls 7 [(0, .ref (a 6)), (1, .int (nI x1)), (2, .int (nI x2)), (3, .int n3), (4, .ref (a 29))] := hl
  refine lv_iconst (v := 0) hx hb dX0_gather_0 (by decide) ?_
  refine lv_istore (lv' := [(5, .int 0), (0, .ref (a 6)), (1, .int (nI x1)), (2, .int (nI x2)), (3, .int n3), (4, .ref (a 29))]) hx hb dX0_gather_1 hl (by decide) rfl (fun ls hl => ?_)
  refine lv_iconst (v := 0) hx hb dX0_gather_3 (by decide) ?_
  refine lv_istore (lv' := [(6, .int 0), (5, .int 0), (0, .ref (a 6)), (1, .int (nI x1)), (2, .int (nI x2)), (3, .int n3), (4, .ref (a 29))]) hx hb dX0_gather_4 hl (by decide) rfl (fun ls hl => ?_)
  have lp6 : ∀ (k6 : Nat) (j1 : Nat) (cn : Nat) (y6_a29 : Nat → Int32) (H : Heap) (locs : List Loc) (ls : Array Slot), j1 ≤ 384 → 384 < j1 + k6 → (cn ≤ j1) → va_P D vwCl [(a 6, .inr (0, [.ref (a 5), .ref (a 25), .ref (a 26), .ref (a 27), .ref (a 28), .ref (a 29), .int (nI dm)])), (a 25, .inl (cI, 1536, .inl d0)), (a 26, .inl (cI, 1536, .inl d1)), (a 27, .inl (cZ, 1536, .inl d2)), (a 29, .inl (cI, 384, .inl y6_a29))] H → va_D A [(a 6, .inr (0, [.ref (a 5), .ref (a 25), .ref (a 26), .ref (a 27), .ref (a 28), .ref (a 29), .int (nI dm)])), (a 25, .inl (cI, 1536, .inl d0)), (a 26, .inl (cI, 1536, .inl d1)), (a 27, .inl (cZ, 1536, .inl d2)), (a 29, .inl (cI, 384, .inl y6_a29))] → va_S A s.heap H locs → lv_has ls 7 [(6, .int (nI j1)), (5, .int (nI cn)), (0, .ref (a 6)), (1, .int (nI x1)), (2, .int (nI x2)), (3, .int n3), (4, .ref (a 29))] → W p l e (rmX 3 0 0) s m ([.ref (a 6), .int (nI x1), .int (nI x2), .int n3, .ref (a 29)] : List Value).toArray below meth c H locs 0 0 (MQ below (va_Qi (fun (r : Int32) (v : (Nat → Int32)) => ∃ m : Nat, m ≤ 384 ∧ r = nI m) (fun u => BX D A ((fun v => [(a 6, .inr (0, [.ref (a 5), .ref (a 25), .ref (a 26), .ref (a 27), .ref (a 28), .ref (a 29), .int (nI dm)])), (a 25, .inl (cI, 1536, .inl d0)), (a 26, .inl (cI, 1536, .inl d1)), (a 27, .inl (cZ, 1536, .inl d2)), (a 29, .inl (cI, 384, .inl v))]) u)) A) ([.ref (a 6), .int (nI x1), .int (nI x2), .int n3, .ref (a 29)] : List Value).toArray s 0 0 A) (F0 m 6 ls []) := by
    intro k6
    induction k6 with
    | zero =>
      intro j1 cn y6_a29 H locs ls hj6 hk6 hcn hP hD hS hl
      exact absurd hk6 (by omega)
    | succ k6 ih6 =>
      intro j1 cn y6_a29 H locs ls hj6 hk6 hcn hP hD hS hl
      refine lv_iload hx hb dX0_gather_6 (lv_at hl 0 rfl) ?_
      refine lv_sipush (v := 384) hx hb dX0_gather_8 (by decide) ?_
      refine lv_icmp_ge (tgt := 65) hx hb dX0_gather_11 (by decide) (fun c_1 => ?_) (fun c_1 => ?_)
      · have n_2 : 384 ≤ j1 := (lf_X0_gather_d4_3 a dm d0 d1 d2 d4 x1 x2 n3 hdm hx1 hx2 j1 cn y6_a29 k6 hj6 hk6 hcn c_1)
        refine lv_iload hx hb dX0_gather_65 (lv_at hl 1 rfl) ?_
        exact W.iret (v := nI cn) hx hb hr (fun tt9 ht hW => ⟨⟨(nI cn : Int32), ((y6_a29 : Nat → Int32)), rfl, (lf_X0_gather_d4_4 a dm d0 d1 d2 d4 x1 x2 n3 hdm hx1 hx2 j1 cn y6_a29 k6 hj6 hk6 hcn c_1 n_2), ⟨by rw [ht]; exact hP, hD⟩⟩, hS.F ht⟩) hS.2.2 dX0_gather_67 hlocks
      · have n_5 : j1 < 384 := (lf_X0_gather_d4_6 a dm d0 d1 d2 d4 x1 x2 n3 hdm hx1 hx2 j1 cn y6_a29 k6 hj6 hk6 hcn c_1)
        refine lv_aload_n hx hb dX0_gather_14 rfl (lv_at hl 2 rfl) ?_
        refine lv_iload_n hx hb dX0_gather_15 rfl (lv_at hl 3 rfl) ?_
        refine lv_iload hx hb dX0_gather_16 (lv_at hl 0 rfl) ?_
        refine eRi (va_runV (As := [.int (nI x1), .int (nI j1)]) (rest := []) ⟨hx, hb, hml, hown, hts⟩ (c_X0_hasMark_g l D cI cB cZ cJ tx a dm d2 x1 j1 (lf_X0_gather_d4_7 a dm d0 d1 d2 d4 x1 x2 n3 hdm hx1 hx2 j1 cn y6_a29 k6 hj6 hk6 hcn c_1 n_5) (lf_X0_gather_d4_8 a dm d0 d1 d2 d4 x1 x2 n3 hdm hx1 hx2 j1 cn y6_a29 k6 hj6 hk6 hcn c_1 n_5) (lf_X0_gather_d4_9 a dm d0 d1 d2 d4 x1 x2 n3 hdm hx1 hx2 j1 cn y6_a29 k6 hj6 hk6 hcn c_1 n_5) H.size) (zV hts k_924 v_X0_hasMark ⟨Nat.le_of_ble_eq_true rfl, Nat.le_of_ble_eq_true rfl⟩) (pV (pxS hK hP hD [0, 3] (by decide) rfl) hK hP 0 rfl rfl) rfl rfl hl.1 rfl (lv_room (Nat.le_of_ble_eq_true rfl)) dX0_gather_18 ⟨Nat.le_of_ble_eq_true rfl, Nat.le_of_ble_eq_true rfl⟩) hP hS hA (fun r_10 H locs wr_10 hP hS => ?_)
        refine lv_if_eq (tgt := 59) hx hb dX0_gather_21 (by decide) (fun c_11 => ?_) (fun c_11 => ?_)
        · refine lv_iinc (v := nI (j1 + 1)) (lv' := [(6, .int (nI (j1 + 1))), (5, .int (nI cn)), (0, .ref (a 6)), (1, .int (nI x1)), (2, .int (nI x2)), (3, .int n3), (4, .ref (a 29))]) hx hb dX0_gather_59 hl (k := 0) rfl (nI_1 j1) (by decide) rfl (fun ls hl => ?_)
          refine lv_goto (tgt := 6) hx hb dX0_gather_62 (by decide) ?_
          exact ih6 (j1 + 1) cn y6_a29 H locs ls (by omega) (by omega) (lf_X0_gather_d4_12 a dm d0 d1 d2 d4 x1 x2 n3 hdm hx1 hx2 j1 cn y6_a29 k6 hj6 hk6 hcn c_1 n_5 r_10 c_11) (hP.sub [0, 1, 2, 3, 4] rfl) (hD.sub [0, 1, 2, 3, 4] (by decide) rfl) hS (lv_sub hl [0, 1, 2, 3, 4, 5, 6] rfl)
        · refine lv_aload_n hx hb dX0_gather_24 rfl (lv_at hl 2 rfl) ?_
          refine lv_iload_n hx hb dX0_gather_25 rfl (lv_at hl 4 rfl) ?_
          refine lv_iload hx hb dX0_gather_26 (lv_at hl 0 rfl) ?_
          refine eRi (va_runV (As := [.int (nI x2), .int (nI j1)]) (rest := []) ⟨hx, hb, hml, hown, hts⟩ (c_X0_hasMark_g l D cI cB cZ cJ tx a dm d2 x2 j1 (lf_X0_gather_d4_13 a dm d0 d1 d2 d4 x1 x2 n3 hdm hx1 hx2 j1 cn y6_a29 k6 hj6 hk6 hcn c_1 n_5 r_10 c_11) (lf_X0_gather_d4_14 a dm d0 d1 d2 d4 x1 x2 n3 hdm hx1 hx2 j1 cn y6_a29 k6 hj6 hk6 hcn c_1 n_5 r_10 c_11) (lf_X0_gather_d4_15 a dm d0 d1 d2 d4 x1 x2 n3 hdm hx1 hx2 j1 cn y6_a29 k6 hj6 hk6 hcn c_1 n_5 r_10 c_11) H.size) (zV hts k_924 v_X0_hasMark ⟨Nat.le_of_ble_eq_true rfl, Nat.le_of_ble_eq_true rfl⟩) (pV (pxS hK hP hD [0, 3] (by decide) rfl) hK hP 0 rfl rfl) rfl rfl hl.1 rfl (lv_room (Nat.le_of_ble_eq_true rfl)) dX0_gather_28 ⟨Nat.le_of_ble_eq_true rfl, Nat.le_of_ble_eq_true rfl⟩) hP hS hA (fun r_16 H locs wr_16 hP hS => ?_)
          refine lv_if_eq (tgt := 59) hx hb dX0_gather_31 (by decide) (fun c_17 => ?_) (fun c_17 => ?_)
          · refine lv_iinc (v := nI (j1 + 1)) (lv' := [(6, .int (nI (j1 + 1))), (5, .int (nI cn)), (0, .ref (a 6)), (1, .int (nI x1)), (2, .int (nI x2)), (3, .int n3), (4, .ref (a 29))]) hx hb dX0_gather_59 hl (k := 0) rfl (nI_1 j1) (by decide) rfl (fun ls hl => ?_)
            refine lv_goto (tgt := 6) hx hb dX0_gather_62 (by decide) ?_
            exact ih6 (j1 + 1) cn y6_a29 H locs ls (by omega) (by omega) (lf_X0_gather_d4_18 a dm d0 d1 d2 d4 x1 x2 n3 hdm hx1 hx2 j1 cn y6_a29 k6 hj6 hk6 hcn c_1 n_5 r_10 c_11 r_16 c_17) (hP.sub [0, 1, 2, 3, 4] rfl) (hD.sub [0, 1, 2, 3, 4] (by decide) rfl) hS (lv_sub hl [0, 1, 2, 3, 4, 5, 6] rfl)
          · refine lv_aload hx hb dX0_gather_34 (lv_at hl 6 rfl) ?_
            refine lv_iload hx hb dX0_gather_36 (lv_at hl 1 rfl) ?_
            refine lv_aload_n hx hb dX0_gather_38 rfl (lv_at hl 2 rfl) ?_
            refine lv_iload_n hx hb dX0_gather_39 rfl (lv_at hl 4 rfl) ?_
            refine lv_iload hx hb dX0_gather_40 (lv_at hl 0 rfl) ?_
            refine lv_iload_n hx hb dX0_gather_42 rfl (lv_at hl 5 rfl) ?_
            refine eRi (va_runV (As := [.int (nI x2), .int (nI j1), .int n3]) (rest := [.int (nI cn), .ref (a 29)]) ⟨hx, hb, hml, hown, hts⟩ (c_X0_at l D cI cB cZ cJ tx a dm d0 d1 x2 j1 n3 (lf_X0_gather_d4_19 a dm d0 d1 d2 d4 x1 x2 n3 hdm hx1 hx2 j1 cn y6_a29 k6 hj6 hk6 hcn c_1 n_5 r_10 c_11 r_16 c_17) (lf_X0_gather_d4_20 a dm d0 d1 d2 d4 x1 x2 n3 hdm hx1 hx2 j1 cn y6_a29 k6 hj6 hk6 hcn c_1 n_5 r_10 c_11 r_16 c_17) H.size) (zV hts k_955 v_X0_at ⟨Nat.le_of_ble_eq_true rfl, Nat.le_of_ble_eq_true rfl⟩) (pV (pxS hK hP hD [0, 1, 2] (by decide) rfl) hK hP 0 rfl rfl) rfl rfl hl.1 rfl (lv_room (Nat.le_of_ble_eq_true rfl)) dX0_gather_43 ⟨Nat.le_of_ble_eq_true rfl, Nat.le_of_ble_eq_true rfl⟩) hP hS hA (fun r_21 H locs wr_21 hP hS => ?_)
            refine lv_aload_n hx hb dX0_gather_46 rfl (lv_at hl 2 rfl) ?_
            refine lv_iload_n hx hb dX0_gather_47 rfl (lv_at hl 3 rfl) ?_
            refine lv_iload hx hb dX0_gather_48 (lv_at hl 0 rfl) ?_
            refine lv_iload_n hx hb dX0_gather_50 rfl (lv_at hl 5 rfl) ?_
            refine eRi (va_runV (As := [.int (nI x1), .int (nI j1), .int n3]) (rest := [.int r_21, .int (nI cn), .ref (a 29)]) ⟨hx, hb, hml, hown, hts⟩ (c_X0_at l D cI cB cZ cJ tx a dm d0 d1 x1 j1 n3 (lf_X0_gather_d4_22 a dm d0 d1 d2 d4 x1 x2 n3 hdm hx1 hx2 j1 cn y6_a29 k6 hj6 hk6 hcn c_1 n_5 r_10 c_11 r_16 c_17 r_21) (lf_X0_gather_d4_23 a dm d0 d1 d2 d4 x1 x2 n3 hdm hx1 hx2 j1 cn y6_a29 k6 hj6 hk6 hcn c_1 n_5 r_10 c_11 r_16 c_17 r_21) H.size) (zV hts k_955 v_X0_at ⟨Nat.le_of_ble_eq_true rfl, Nat.le_of_ble_eq_true rfl⟩) (pV (pxS hK hP hD [0, 1, 2] (by decide) rfl) hK hP 0 rfl rfl) rfl rfl hl.1 rfl (lv_room (Nat.le_of_ble_eq_true rfl)) dX0_gather_51 ⟨Nat.le_of_ble_eq_true rfl, Nat.le_of_ble_eq_true rfl⟩) hP hS hA (fun r_24 H locs wr_24 hP hS => ?_)
            refine lv_isub hx hb dX0_gather_54 ?_
            refine lv_topi (fun x_25 ex_25 => ?_)
            refine st_i hx hb hK hP hD hS 4 rfl (lf_X0_gather_d4_27 a dm d0 d1 d2 d4 x1 x2 n3 hdm hx1 hx2 j1 cn y6_a29 k6 hj6 hk6 hcn c_1 n_5 r_10 c_11 r_16 c_17 r_21 r_24 x_25 ex_25) dX0_gather_55 (fun f_26 H locs hP hD hS => ?_)
            have hP : va_P D vwCl [(a 6, .inr (0, [.ref (a 5), .ref (a 25), .ref (a 26), .ref (a 27), .ref (a 28), .ref (a 29), .int (nI dm)])), (a 25, .inl (cI, 1536, .inl d0)), (a 26, .inl (cI, 1536, .inl d1)), (a 27, .inl (cZ, 1536, .inl d2)), (a 29, .inl (cI, 384, .inl f_26))] H := hP
            have hD : va_D A [(a 6, .inr (0, [.ref (a 5), .ref (a 25), .ref (a 26), .ref (a 27), .ref (a 28), .ref (a 29), .int (nI dm)])), (a 25, .inl (cI, 1536, .inl d0)), (a 26, .inl (cI, 1536, .inl d1)), (a 27, .inl (cZ, 1536, .inl d2)), (a 29, .inl (cI, 384, .inl f_26))] := hD
            refine lv_iinc (v := nI (cn + 1)) (lv' := [(5, .int (nI (cn + 1))), (6, .int (nI j1)), (0, .ref (a 6)), (1, .int (nI x1)), (2, .int (nI x2)), (3, .int n3), (4, .ref (a 29))]) hx hb dX0_gather_56 hl (k := 1) rfl (nI_1 cn) (by decide) rfl (fun ls hl => ?_)
            refine lv_iinc (v := nI (j1 + 1)) (lv' := [(6, .int (nI (j1 + 1))), (5, .int (nI (cn + 1))), (0, .ref (a 6)), (1, .int (nI x1)), (2, .int (nI x2)), (3, .int n3), (4, .ref (a 29))]) hx hb dX0_gather_59 hl (k := 1) rfl (nI_1 j1) (by decide) rfl (fun ls hl => ?_)
            refine lv_goto (tgt := 6) hx hb dX0_gather_62 (by decide) ?_
            exact ih6 (j1 + 1) (cn + 1) f_26 H locs ls (by omega) (by omega) (lf_X0_gather_d4_28 a dm d0 d1 d2 d4 x1 x2 n3 hdm hx1 hx2 j1 cn y6_a29 k6 hj6 hk6 hcn c_1 n_5 r_10 c_11 r_16 c_17 r_21 r_24 x_25 ex_25 f_26) (hP.sub [0, 1, 2, 3, 4] rfl) (hD.sub [0, 1, 2, 3, 4] (by decide) rfl) hS (lv_sub hl [0, 1, 2, 3, 4, 5, 6] rfl)
  exact lp6 (384 + 1) 0 0 d4 H locs ls (by omega) (by omega) (lf_X0_gather_d4_29 a dm d0 d1 d2 d4 x1 x2 n3 hdm hx1 hx2) (hP.sub [0, 1, 2, 3, 4] rfl) (hD.sub [0, 1, 2, 3, 4] (by decide) rfl) hS (lv_sub hl [0, 1, 2, 3, 4, 5, 6] rfl)

theorem lf_X0_lowerMedian_d4_3 (a : Nat → Nat) (d4 : Nat → Int32) (x1 : Nat) (hx1 : x1 ≤ 384) (j1 : Nat) (w1 : Int32) (w2 : Int32) (k11 : Nat) (hj11 : j1 ≤ 15) (hk11 : 15 < j1 + (k11 + 1)) (c_1 : 15 ≤ nI j1) : 15 ≤ j1 := by
  exact (nI_leI (a := 15) (b := j1) (by omega) (by omega)).mp c_1
theorem lf_X0_lowerMedian_d4_5 (a : Nat → Nat) (d4 : Nat → Int32) (x1 : Nat) (hx1 : x1 ≤ 384) (j1 : Nat) (w1 : Int32) (w2 : Int32) (k11 : Nat) (hj11 : j1 ≤ 15) (hk11 : 15 < j1 + (k11 + 1)) (c_1 : ¬ 15 ≤ nI j1) : j1 < 15 := by
  exact Nat.lt_of_not_le (fun q => c_1 ((nI_leI (a := 15) (b := j1) (by omega) (by omega)).mpr q))
theorem lf_X0_lowerMedian_d4_8 (a : Nat → Nat) (d4 : Nat → Int32) (x1 : Nat) (hx1 : x1 ≤ 384) (j1 : Nat) (w1 : Int32) (w2 : Int32) (k11 : Nat) (hj11 : j1 ≤ 15) (hk11 : 15 < j1 + (k11 + 1)) (c_1 : ¬ 15 ≤ nI j1) (n_4 : j1 < 15) (c_6 : ¬ w2 ≤ w1) (x_7 : Int32) (ex_7 : x_7 = w1 + w2) : ¬ 2 = 0 := by
  first | assumption | omega | decide
theorem lf_X0_lowerMedian_d4_12 (a : Nat → Nat) (d4 : Nat → Int32) (x1 : Nat) (hx1 : x1 ≤ 384) (j1 : Nat) (w1 : Int32) (w2 : Int32) (k11 : Nat) (hj11 : j1 ≤ 15) (hk11 : 15 < j1 + (k11 + 1)) (c_1 : ¬ 15 ≤ nI j1) (n_4 : j1 < 15) (c_6 : ¬ w2 ≤ w1) (x_7 : Int32) (ex_7 : x_7 = w1 + w2) (r_9 : Int32) (j2 : Nat) (w3 : Int32) (k38 : Nat) (hj38 : j2 ≤ x1) (hk38 : x1 < j2 + (k38 + 1)) (c_10 : nI x1 ≤ nI j2) : x1 ≤ j2 := by
  exact (nI_leI (a := x1) (b := j2) (by omega) (by omega)).mp c_10
theorem lf_X0_lowerMedian_d4_17 (a : Nat → Nat) (d4 : Nat → Int32) (x1 : Nat) (hx1 : x1 ≤ 384) (j1 : Nat) (w1 : Int32) (w2 : Int32) (k11 : Nat) (hj11 : j1 ≤ 15) (hk11 : 15 < j1 + (k11 + 1)) (c_1 : ¬ 15 ≤ nI j1) (n_4 : j1 < 15) (c_6 : ¬ w2 ≤ w1) (x_7 : Int32) (ex_7 : x_7 = w1 + w2) (r_9 : Int32) (j2 : Nat) (w3 : Int32) (k38 : Nat) (hj38 : j2 ≤ x1) (hk38 : x1 < j2 + (k38 + 1)) (c_10 : ¬ nI x1 ≤ nI j2) : j2 < x1 := by
  exact Nat.lt_of_not_le (fun q => c_10 ((nI_leI (a := x1) (b := j2) (by omega) (by omega)).mpr q))
theorem lf_X0_lowerMedian_d4_18 (a : Nat → Nat) (d4 : Nat → Int32) (x1 : Nat) (hx1 : x1 ≤ 384) (j1 : Nat) (w1 : Int32) (w2 : Int32) (k11 : Nat) (hj11 : j1 ≤ 15) (hk11 : 15 < j1 + (k11 + 1)) (c_1 : ¬ 15 ≤ nI j1) (n_4 : j1 < 15) (c_6 : ¬ w2 ≤ w1) (x_7 : Int32) (ex_7 : x_7 = w1 + w2) (r_9 : Int32) (j2 : Nat) (w3 : Int32) (k38 : Nat) (hj38 : j2 ≤ x1) (hk38 : x1 < j2 + (k38 + 1)) (c_10 : ¬ nI x1 ≤ nI j2) (n_16 : j2 < x1) : vp_in (nI j2) 384 := by
  first | exact vp_in_nI (by omega) (by decide) | (unfold vp_in; decide)
set_option maxHeartbeats 4000000 in
set_option maxRecDepth 100000 in
theorem c_X0_lowerMedian_d4 (l : Launch) (D : va_G) (cI cB cZ cJ : ClassId) (tx : List (ClassId × FieldType)) (a : Nat → Nat) (d4 : Nat → Int32) (x1 : Nat) (hx1 : x1 ≤ 384) : RdI l D cI cB cZ cJ tx yX0_lowerMedian cX0_lowerMedian 8 (some .int) 1 [.ref (a 29), .int (nI x1)] [(a 29, .inl (cI, 384, .inl d4))] (fun r => True) := by
  refine rdi_of2 (by decide) (Nat.le_of_ble_eq_true rfl) ?_
  intro p e s m below meth c A ls H locs hC hK hP hD hA hS hl
  obtain ⟨hx, hb, hr, hml, hown, hts, hlocks, hin⟩ := hC
  have hown : s.vm.findClass RX0 = some m.cls := hown
  have hl : lv_has ls 8 [(0, .ref (a 29)), (1, .int (nI x1))] := hl
  refine lv_sipush (v := (-12000)) hx hb dX0_lowerMedian_0 (by decide) ?_
  refine lv_istore_n (lv' := [(2, .int (-12000)), (0, .ref (a 29)), (1, .int (nI x1))]) hx hb dX0_lowerMedian_3 rfl hl (by decide) rfl (fun ls hl => ?_)
  refine lv_sipush (v := 12000) hx hb dX0_lowerMedian_4 (by decide) ?_
  refine lv_istore_n (lv' := [(3, .int 12000), (2, .int (-12000)), (0, .ref (a 29)), (1, .int (nI x1))]) hx hb dX0_lowerMedian_7 rfl hl (by decide) rfl (fun ls hl => ?_)
  refine lv_iconst (v := 0) hx hb dX0_lowerMedian_8 (by decide) ?_
  refine lv_istore (lv' := [(4, .int 0), (3, .int 12000), (2, .int (-12000)), (0, .ref (a 29)), (1, .int (nI x1))]) hx hb dX0_lowerMedian_9 hl (by decide) rfl (fun ls hl => ?_)
  have lp11 : ∀ (k11 : Nat) (j1 : Nat) (w1 : Int32) (w2 : Int32) (H : Heap) (locs : List Loc) (ls : Array Slot), j1 ≤ 15 → 15 < j1 + k11 → va_P D vwCl [(a 29, .inl (cI, 384, .inl d4))] H → va_S A s.heap H locs → lv_has ls 8 [(4, .int (nI j1)), (3, .int w2), (2, .int w1), (0, .ref (a 29)), (1, .int (nI x1))] → W p l e (rmX 1 0 0) s m ([.ref (a 29), .int (nI x1)] : List Value).toArray below meth c H locs 0 0 (MQ below (va_Qi (fun r (_ : Unit) => (fun r => True) r) (fun _ _ => True) A) ([.ref (a 29), .int (nI x1)] : List Value).toArray s 0 0 A) (F0 m 11 ls []) := by
    intro k11
    induction k11 with
    | zero =>
      intro j1 w1 w2 H locs ls hj11 hk11  hP hS hl
      exact absurd hk11 (by omega)
    | succ k11 ih11 =>
      intro j1 w1 w2 H locs ls hj11 hk11  hP hS hl
      refine lv_iload hx hb dX0_lowerMedian_11 (lv_at hl 0 rfl) ?_
      refine lv_bipush (v := 15) hx hb dX0_lowerMedian_13 (by decide) ?_
      refine lv_icmp_ge (tgt := 94) hx hb dX0_lowerMedian_15 (by decide) (fun c_1 => ?_) (fun c_1 => ?_)
      · have n_2 : 15 ≤ j1 := (lf_X0_lowerMedian_d4_3 a d4 x1 hx1 j1 w1 w2 k11 hj11 hk11 c_1)
        refine lv_iload_n hx hb dX0_lowerMedian_94 rfl (lv_at hl 2 rfl) ?_
        exact W.iret (v := w1) hx hb hr (fun tt9 ht hW => ⟨⟨(w1 : Int32), (), rfl, trivial, trivial⟩, hS.F ht⟩) hS.2.2 dX0_lowerMedian_95 hlocks
      · have n_4 : j1 < 15 := (lf_X0_lowerMedian_d4_5 a d4 x1 hx1 j1 w1 w2 k11 hj11 hk11 c_1)
        refine lv_iload_n hx hb dX0_lowerMedian_18 rfl (lv_at hl 2 rfl) ?_
        refine lv_iload_n hx hb dX0_lowerMedian_19 rfl (lv_at hl 1 rfl) ?_
        refine lv_icmp_ge (tgt := 94) hx hb dX0_lowerMedian_20 (by decide) (fun c_6 => ?_) (fun c_6 => ?_)
        · refine lv_iload_n hx hb dX0_lowerMedian_94 rfl (lv_at hl 2 rfl) ?_
          exact W.iret (v := w1) hx hb hr (fun tt9 ht hW => ⟨⟨(w1 : Int32), (), rfl, trivial, trivial⟩, hS.F ht⟩) hS.2.2 dX0_lowerMedian_95 hlocks
        · refine lv_iload_n hx hb dX0_lowerMedian_23 rfl (lv_at hl 2 rfl) ?_
          refine lv_iload_n hx hb dX0_lowerMedian_24 rfl (lv_at hl 1 rfl) ?_
          refine lv_iadd hx hb dX0_lowerMedian_25 ?_
          refine lv_topi (fun x_7 ex_7 => ?_)
          refine lv_iconst (v := 2) hx hb dX0_lowerMedian_26 (by decide) ?_
          refine eRi (va_runS (As := [.int x_7, .int 2]) (rest := []) ⟨hx, hb, hml, hown, hts⟩ (c_J9_floorDiv l D cI cB cZ cJ tx x_7 2 (lf_X0_lowerMedian_d4_8 a d4 x1 hx1 j1 w1 w2 k11 hj11 hk11 c_1 n_4 c_6 x_7 ex_7) H.size) (zS hts k_963 v_J9_floorDiv_7cf53 ⟨Nat.le_of_ble_eq_true rfl, Nat.le_of_ble_eq_true rfl⟩) (px0 hK) rfl rfl hl.1 rfl (lv_room (Nat.le_of_ble_eq_true rfl)) dX0_lowerMedian_27 ⟨Nat.le_of_ble_eq_true rfl, Nat.le_of_ble_eq_true rfl⟩) hP hS hA (fun r_9 H locs wr_9 hP hS => ?_)
          refine lv_istore (lv' := [(5, .int r_9), (4, .int (nI j1)), (3, .int w2), (2, .int w1), (0, .ref (a 29)), (1, .int (nI x1))]) hx hb dX0_lowerMedian_30 hl (by decide) rfl (fun ls hl => ?_)
          refine lv_iconst (v := 0) hx hb dX0_lowerMedian_32 (by decide) ?_
          refine lv_istore (lv' := [(6, .int 0), (5, .int r_9), (4, .int (nI j1)), (3, .int w2), (2, .int w1), (0, .ref (a 29)), (1, .int (nI x1))]) hx hb dX0_lowerMedian_33 hl (by decide) rfl (fun ls hl => ?_)
          refine lv_iconst (v := 0) hx hb dX0_lowerMedian_35 (by decide) ?_
          refine lv_istore (lv' := [(7, .int 0), (6, .int 0), (5, .int r_9), (4, .int (nI j1)), (3, .int w2), (2, .int w1), (0, .ref (a 29)), (1, .int (nI x1))]) hx hb dX0_lowerMedian_36 hl (by decide) rfl (fun ls hl => ?_)
          have lp38 : ∀ (k38 : Nat) (j2 : Nat) (w3 : Int32) (H : Heap) (locs : List Loc) (ls : Array Slot), j2 ≤ x1 → x1 < j2 + k38 → va_P D vwCl [(a 29, .inl (cI, 384, .inl d4))] H → va_S A s.heap H locs → lv_has ls 8 [(7, .int (nI j2)), (6, .int w3), (5, .int r_9), (4, .int (nI j1)), (3, .int w2), (2, .int w1), (0, .ref (a 29)), (1, .int (nI x1))] → W p l e (rmX 1 0 0) s m ([.ref (a 29), .int (nI x1)] : List Value).toArray below meth c H locs 0 0 (MQ below (va_Qi (fun r (_ : Unit) => (fun r => True) r) (fun _ _ => True) A) ([.ref (a 29), .int (nI x1)] : List Value).toArray s 0 0 A) (F0 m 38 ls []) := by
            intro k38
            induction k38 with
            | zero =>
              intro j2 w3 H locs ls hj38 hk38  hP hS hl
              exact absurd hk38 (by omega)
            | succ k38 ih38 =>
              intro j2 w3 H locs ls hj38 hk38  hP hS hl
              refine lv_iload hx hb dX0_lowerMedian_38 (lv_at hl 0 rfl) ?_
              refine lv_iload_n hx hb dX0_lowerMedian_40 rfl (lv_at hl 7 rfl) ?_
              refine lv_icmp_ge (tgt := 69) hx hb dX0_lowerMedian_41 (by decide) (fun c_10 => ?_) (fun c_10 => ?_)
              · have n_11 : x1 ≤ j2 := (lf_X0_lowerMedian_d4_12 a d4 x1 hx1 j1 w1 w2 k11 hj11 hk11 c_1 n_4 c_6 x_7 ex_7 r_9 j2 w3 k38 hj38 hk38 c_10)
                refine lv_iconst (v := 2) hx hb dX0_lowerMedian_69 (by decide) ?_
                refine lv_iload hx hb dX0_lowerMedian_70 (lv_at hl 1 rfl) ?_
                refine lv_imul hx hb dX0_lowerMedian_72 ?_
                refine lv_topi (fun x_13 ex_13 => ?_)
                refine lv_iload_n hx hb dX0_lowerMedian_73 rfl (lv_at hl 7 rfl) ?_
                refine lv_icmp_lt (tgt := 83) hx hb dX0_lowerMedian_74 (by decide) (fun c_14 => ?_) (fun c_14 => ?_)
                · refine lv_iload hx hb dX0_lowerMedian_83 (lv_at hl 2 rfl) ?_
                  refine lv_iconst (v := 1) hx hb dX0_lowerMedian_85 (by decide) ?_
                  refine lv_iadd hx hb dX0_lowerMedian_86 ?_
                  refine lv_topi (fun x_15 ex_15 => ?_)
                  refine lv_istore_n (lv' := [(2, .int x_15), (7, .int (nI j2)), (6, .int w3), (5, .int r_9), (4, .int (nI j1)), (3, .int w2), (0, .ref (a 29)), (1, .int (nI x1))]) hx hb dX0_lowerMedian_87 rfl hl (by decide) rfl (fun ls hl => ?_)
                  refine lv_iinc (v := nI (j1 + 1)) (lv' := [(4, .int (nI (j1 + 1))), (2, .int x_15), (7, .int (nI j2)), (6, .int w3), (5, .int r_9), (3, .int w2), (0, .ref (a 29)), (1, .int (nI x1))]) hx hb dX0_lowerMedian_88 hl (k := 4) rfl (nI_1 j1) (by decide) rfl (fun ls hl => ?_)
                  refine lv_goto (tgt := 11) hx hb dX0_lowerMedian_91 (by decide) ?_
                  exact ih11 (j1 + 1) x_15 w2 H locs ls (by omega) (by omega)  (hP.sub [0] rfl)  hS (lv_sub hl [0, 5, 1, 6, 7] rfl)
                · refine lv_iload hx hb dX0_lowerMedian_77 (lv_at hl 2 rfl) ?_
                  refine lv_istore_n (lv' := [(3, .int r_9), (7, .int (nI j2)), (6, .int w3), (5, .int r_9), (4, .int (nI j1)), (2, .int w1), (0, .ref (a 29)), (1, .int (nI x1))]) hx hb dX0_lowerMedian_79 rfl hl (by decide) rfl (fun ls hl => ?_)
                  refine lv_goto (tgt := 88) hx hb dX0_lowerMedian_80 (by decide) ?_
                  refine lv_iinc (v := nI (j1 + 1)) (lv' := [(4, .int (nI (j1 + 1))), (3, .int r_9), (7, .int (nI j2)), (6, .int w3), (5, .int r_9), (2, .int w1), (0, .ref (a 29)), (1, .int (nI x1))]) hx hb dX0_lowerMedian_88 hl (k := 4) rfl (nI_1 j1) (by decide) rfl (fun ls hl => ?_)
                  refine lv_goto (tgt := 11) hx hb dX0_lowerMedian_91 (by decide) ?_
                  exact ih11 (j1 + 1) w1 r_9 H locs ls (by omega) (by omega)  (hP.sub [0] rfl)  hS (lv_sub hl [0, 1, 5, 6, 7] rfl)
              · have n_16 : j2 < x1 := (lf_X0_lowerMedian_d4_17 a d4 x1 hx1 j1 w1 w2 k11 hj11 hk11 c_1 n_4 c_6 x_7 ex_7 r_9 j2 w3 k38 hj38 hk38 c_10)
                refine lv_iload hx hb dX0_lowerMedian_44 (lv_at hl 1 rfl) ?_
                refine lv_aload_n hx hb dX0_lowerMedian_46 rfl (lv_at hl 6 rfl) ?_
                refine lv_iload hx hb dX0_lowerMedian_47 (lv_at hl 0 rfl) ?_
                refine ld_i hx hb hK hP 0 rfl (lf_X0_lowerMedian_d4_18 a d4 x1 hx1 j1 w1 w2 k11 hj11 hk11 c_1 n_4 c_6 x_7 ex_7 r_9 j2 w3 k38 hj38 hk38 c_10 n_16) dX0_lowerMedian_49 (fun x_19 => ?_)
                refine lv_iload hx hb dX0_lowerMedian_50 (lv_at hl 2 rfl) ?_
                refine lv_icmp_gt (tgt := 59) hx hb dX0_lowerMedian_52 (by decide) (fun c_20 => ?_) (fun c_20 => ?_)
                · refine lv_iconst (v := 0) hx hb dX0_lowerMedian_59 (by decide) ?_
                  refine lv_iadd hx hb dX0_lowerMedian_60 ?_
                  refine lv_topi (fun x_21 ex_21 => ?_)
                  refine lv_istore (lv' := [(6, .int x_21), (7, .int (nI j2)), (5, .int r_9), (4, .int (nI j1)), (3, .int w2), (2, .int w1), (0, .ref (a 29)), (1, .int (nI x1))]) hx hb dX0_lowerMedian_61 hl (by decide) rfl (fun ls hl => ?_)
                  refine lv_iinc (v := nI (j2 + 1)) (lv' := [(7, .int (nI (j2 + 1))), (6, .int x_21), (5, .int r_9), (4, .int (nI j1)), (3, .int w2), (2, .int w1), (0, .ref (a 29)), (1, .int (nI x1))]) hx hb dX0_lowerMedian_63 hl (k := 1) rfl (nI_1 j2) (by decide) rfl (fun ls hl => ?_)
                  refine lv_goto (tgt := 38) hx hb dX0_lowerMedian_66 (by decide) ?_
                  exact ih38 (j2 + 1) x_21 H locs ls (by omega) (by omega)  (hP.sub [0] rfl)  hS (lv_sub hl [0, 1, 2, 3, 4, 5, 6, 7] rfl)
                · refine lv_iconst (v := 1) hx hb dX0_lowerMedian_55 (by decide) ?_
                  refine lv_goto (tgt := 60) hx hb dX0_lowerMedian_56 (by decide) ?_
                  refine lv_iadd hx hb dX0_lowerMedian_60 ?_
                  refine lv_topi (fun x_22 ex_22 => ?_)
                  refine lv_istore (lv' := [(6, .int x_22), (7, .int (nI j2)), (5, .int r_9), (4, .int (nI j1)), (3, .int w2), (2, .int w1), (0, .ref (a 29)), (1, .int (nI x1))]) hx hb dX0_lowerMedian_61 hl (by decide) rfl (fun ls hl => ?_)
                  refine lv_iinc (v := nI (j2 + 1)) (lv' := [(7, .int (nI (j2 + 1))), (6, .int x_22), (5, .int r_9), (4, .int (nI j1)), (3, .int w2), (2, .int w1), (0, .ref (a 29)), (1, .int (nI x1))]) hx hb dX0_lowerMedian_63 hl (k := 1) rfl (nI_1 j2) (by decide) rfl (fun ls hl => ?_)
                  refine lv_goto (tgt := 38) hx hb dX0_lowerMedian_66 (by decide) ?_
                  exact ih38 (j2 + 1) x_22 H locs ls (by omega) (by omega)  (hP.sub [0] rfl)  hS (lv_sub hl [0, 1, 2, 3, 4, 5, 6, 7] rfl)
          exact lp38 (x1 + 1) 0 0 H locs ls (by omega) (by omega)  (hP.sub [0] rfl)  hS (lv_sub hl [0, 1, 2, 3, 4, 5, 6, 7] rfl)
  exact lp11 (15 + 1) 0 (-12000) 12000 H locs ls (by omega) (by omega)  (hP.sub [0] rfl)  hS (lv_sub hl [0, 1, 2, 3, 4] rfl)

theorem lf_X0_marksOf_3 (a : Nat → Nat) (dm : Nat) (d2 : Nat → Int32) (x1 : Nat) (hdm : dm ≤ 4) (hx1 : x1 < dm) (j1 : Nat) (w1 : Int32) (k4 : Nat) (hj4 : j1 ≤ 384) (hk4 : 384 < j1 + (k4 + 1)) (c_1 : 384 ≤ nI j1) : 384 ≤ j1 := by
  exact (nI_leI (a := 384) (b := j1) (by omega) (by omega)).mp c_1
theorem lf_X0_marksOf_5 (a : Nat → Nat) (dm : Nat) (d2 : Nat → Int32) (x1 : Nat) (hdm : dm ≤ 4) (hx1 : x1 < dm) (j1 : Nat) (w1 : Int32) (k4 : Nat) (hj4 : j1 ≤ 384) (hk4 : 384 < j1 + (k4 + 1)) (c_1 : ¬ 384 ≤ nI j1) : j1 < 384 := by
  exact Nat.lt_of_not_le (fun q => c_1 ((nI_leI (a := 384) (b := j1) (by omega) (by omega)).mpr q))
theorem lf_X0_marksOf_6 (a : Nat → Nat) (dm : Nat) (d2 : Nat → Int32) (x1 : Nat) (hdm : dm ≤ 4) (hx1 : x1 < dm) (j1 : Nat) (w1 : Int32) (k4 : Nat) (hj4 : j1 ≤ 384) (hk4 : 384 < j1 + (k4 + 1)) (c_1 : ¬ 384 ≤ nI j1) (n_4 : j1 < 384) : dm ≤ 4 := by
  first | assumption | omega | decide
theorem lf_X0_marksOf_7 (a : Nat → Nat) (dm : Nat) (d2 : Nat → Int32) (x1 : Nat) (hdm : dm ≤ 4) (hx1 : x1 < dm) (j1 : Nat) (w1 : Int32) (k4 : Nat) (hj4 : j1 ≤ 384) (hk4 : 384 < j1 + (k4 + 1)) (c_1 : ¬ 384 ≤ nI j1) (n_4 : j1 < 384) : x1 < dm := by
  first | assumption | omega | decide
theorem lf_X0_marksOf_8 (a : Nat → Nat) (dm : Nat) (d2 : Nat → Int32) (x1 : Nat) (hdm : dm ≤ 4) (hx1 : x1 < dm) (j1 : Nat) (w1 : Int32) (k4 : Nat) (hj4 : j1 ≤ 384) (hk4 : 384 < j1 + (k4 + 1)) (c_1 : ¬ 384 ≤ nI j1) (n_4 : j1 < 384) : j1 < 384 := by
  first | assumption | omega | decide
set_option maxHeartbeats 4000000 in
set_option maxRecDepth 100000 in
theorem c_X0_marksOf (l : Launch) (D : va_G) (cI cB cZ cJ : ClassId) (tx : List (ClassId × FieldType)) (a : Nat → Nat) (dm : Nat) (d2 : Nat → Int32) (x1 : Nat) (hdm : dm ≤ 4) (hx1 : x1 < dm) : RdI l D cI cB cZ cJ tx yX0_marksOf cX0_marksOf 4 (some .int) 3 [.ref (a 6), .int (nI x1)] [(a 6, .inr (0, [.ref (a 5), .ref (a 25), .ref (a 26), .ref (a 27), .ref (a 28), .ref (a 29), .int (nI dm)])), (a 27, .inl (cZ, 1536, .inl d2))] (fun r => True) := by
  refine rdi_of2 (by decide) (Nat.le_of_ble_eq_true rfl) ?_
  intro p e s m below meth c A ls H locs hC hK hP hD hA hS hl
  obtain ⟨hx, hb, hr, hml, hown, hts, hlocks, hin⟩ := hC
  have hown : s.vm.findClass RX0 = some m.cls := hown
  have hl : lv_has ls 4 [(0, .ref (a 6)), (1, .int (nI x1))] := hl
  refine lv_iconst (v := 0) hx hb dX0_marksOf_0 (by decide) ?_
  refine lv_istore_n (lv' := [(2, .int 0), (0, .ref (a 6)), (1, .int (nI x1))]) hx hb dX0_marksOf_1 rfl hl (by decide) rfl (fun ls hl => ?_)
  refine lv_iconst (v := 0) hx hb dX0_marksOf_2 (by decide) ?_
  refine lv_istore_n (lv' := [(3, .int 0), (2, .int 0), (0, .ref (a 6)), (1, .int (nI x1))]) hx hb dX0_marksOf_3 rfl hl (by decide) rfl (fun ls hl => ?_)
  have lp4 : ∀ (k4 : Nat) (j1 : Nat) (w1 : Int32) (H : Heap) (locs : List Loc) (ls : Array Slot), j1 ≤ 384 → 384 < j1 + k4 → va_P D vwCl [(a 6, .inr (0, [.ref (a 5), .ref (a 25), .ref (a 26), .ref (a 27), .ref (a 28), .ref (a 29), .int (nI dm)])), (a 27, .inl (cZ, 1536, .inl d2))] H → va_S A s.heap H locs → lv_has ls 4 [(3, .int (nI j1)), (2, .int w1), (0, .ref (a 6)), (1, .int (nI x1))] → W p l e (rmX 3 0 0) s m ([.ref (a 6), .int (nI x1)] : List Value).toArray below meth c H locs 0 0 (MQ below (va_Qi (fun r (_ : Unit) => (fun r => True) r) (fun _ _ => True) A) ([.ref (a 6), .int (nI x1)] : List Value).toArray s 0 0 A) (F0 m 4 ls []) := by
    intro k4
    induction k4 with
    | zero =>
      intro j1 w1 H locs ls hj4 hk4  hP hS hl
      exact absurd hk4 (by omega)
    | succ k4 ih4 =>
      intro j1 w1 H locs ls hj4 hk4  hP hS hl
      refine lv_iload_n hx hb dX0_marksOf_4 rfl (lv_at hl 0 rfl) ?_
      refine lv_sipush (v := 384) hx hb dX0_marksOf_5 (by decide) ?_
      refine lv_icmp_ge (tgt := 34) hx hb dX0_marksOf_8 (by decide) (fun c_1 => ?_) (fun c_1 => ?_)
      · have n_2 : 384 ≤ j1 := (lf_X0_marksOf_3 a dm d2 x1 hdm hx1 j1 w1 k4 hj4 hk4 c_1)
        refine lv_iload_n hx hb dX0_marksOf_34 rfl (lv_at hl 1 rfl) ?_
        exact W.iret (v := w1) hx hb hr (fun tt9 ht hW => ⟨⟨(w1 : Int32), (), rfl, trivial, trivial⟩, hS.F ht⟩) hS.2.2 dX0_marksOf_35 hlocks
      · have n_4 : j1 < 384 := (lf_X0_marksOf_5 a dm d2 x1 hdm hx1 j1 w1 k4 hj4 hk4 c_1)
        refine lv_iload_n hx hb dX0_marksOf_11 rfl (lv_at hl 1 rfl) ?_
        refine lv_aload_n hx hb dX0_marksOf_12 rfl (lv_at hl 2 rfl) ?_
        refine lv_iload_n hx hb dX0_marksOf_13 rfl (lv_at hl 3 rfl) ?_
        refine lv_iload_n hx hb dX0_marksOf_14 rfl (lv_at hl 0 rfl) ?_
        refine eRi (va_runV (As := [.int (nI x1), .int (nI j1)]) (rest := [.int w1]) ⟨hx, hb, hml, hown, hts⟩ (c_X0_hasMark_g l D cI cB cZ cJ tx a dm d2 x1 j1 (lf_X0_marksOf_6 a dm d2 x1 hdm hx1 j1 w1 k4 hj4 hk4 c_1 n_4) (lf_X0_marksOf_7 a dm d2 x1 hdm hx1 j1 w1 k4 hj4 hk4 c_1 n_4) (lf_X0_marksOf_8 a dm d2 x1 hdm hx1 j1 w1 k4 hj4 hk4 c_1 n_4) H.size) (zV hts k_924 v_X0_hasMark ⟨Nat.le_of_ble_eq_true rfl, Nat.le_of_ble_eq_true rfl⟩) (pV (pxS hK hP hD [0, 1] (by decide) rfl) hK hP 0 rfl rfl) rfl rfl hl.1 rfl (lv_room (Nat.le_of_ble_eq_true rfl)) dX0_marksOf_15 ⟨Nat.le_of_ble_eq_true rfl, Nat.le_of_ble_eq_true rfl⟩) hP hS hA (fun r_9 H locs wr_9 hP hS => ?_)
        refine lv_if_eq (tgt := 25) hx hb dX0_marksOf_18 (by decide) (fun c_10 => ?_) (fun c_10 => ?_)
        · refine lv_iconst (v := 0) hx hb dX0_marksOf_25 (by decide) ?_
          refine lv_iadd hx hb dX0_marksOf_26 ?_
          refine lv_topi (fun x_11 ex_11 => ?_)
          refine lv_istore_n (lv' := [(2, .int x_11), (3, .int (nI j1)), (0, .ref (a 6)), (1, .int (nI x1))]) hx hb dX0_marksOf_27 rfl hl (by decide) rfl (fun ls hl => ?_)
          refine lv_iinc (v := nI (j1 + 1)) (lv' := [(3, .int (nI (j1 + 1))), (2, .int x_11), (0, .ref (a 6)), (1, .int (nI x1))]) hx hb dX0_marksOf_28 hl (k := 1) rfl (nI_1 j1) (by decide) rfl (fun ls hl => ?_)
          refine lv_goto (tgt := 4) hx hb dX0_marksOf_31 (by decide) ?_
          exact ih4 (j1 + 1) x_11 H locs ls (by omega) (by omega)  (hP.sub [0, 1] rfl)  hS (lv_sub hl [0, 1, 2, 3] rfl)
        · refine lv_iconst (v := 1) hx hb dX0_marksOf_21 (by decide) ?_
          refine lv_goto (tgt := 26) hx hb dX0_marksOf_22 (by decide) ?_
          refine lv_iadd hx hb dX0_marksOf_26 ?_
          refine lv_topi (fun x_12 ex_12 => ?_)
          refine lv_istore_n (lv' := [(2, .int x_12), (3, .int (nI j1)), (0, .ref (a 6)), (1, .int (nI x1))]) hx hb dX0_marksOf_27 rfl hl (by decide) rfl (fun ls hl => ?_)
          refine lv_iinc (v := nI (j1 + 1)) (lv' := [(3, .int (nI (j1 + 1))), (2, .int x_12), (0, .ref (a 6)), (1, .int (nI x1))]) hx hb dX0_marksOf_28 hl (k := 1) rfl (nI_1 j1) (by decide) rfl (fun ls hl => ?_)
          refine lv_goto (tgt := 4) hx hb dX0_marksOf_31 (by decide) ?_
          exact ih4 (j1 + 1) x_12 H locs ls (by omega) (by omega)  (hP.sub [0, 1] rfl)  hS (lv_sub hl [0, 1, 2, 3] rfl)
  exact lp4 (384 + 1) 0 0 H locs ls (by omega) (by omega)  (hP.sub [0, 1] rfl)  hS (lv_sub hl [0, 1, 2, 3] rfl)

theorem lf_X0_common_1 (a : Nat → Nat) (dm : Nat) (d0 : Nat → Int32) (d1 : Nat → Int32) (d2 : Nat → Int32) (d3 : Nat → Int32) (x1 : Nat) (x2 : Nat) (hdm : dm ≤ 4) (hx1 : x1 < dm) (hx2 : x2 < dm) : dm ≤ 4 := by
  first | assumption | omega | decide
theorem lf_X0_common_2 (a : Nat → Nat) (dm : Nat) (d0 : Nat → Int32) (d1 : Nat → Int32) (d2 : Nat → Int32) (d3 : Nat → Int32) (x1 : Nat) (x2 : Nat) (hdm : dm ≤ 4) (hx1 : x1 < dm) (hx2 : x2 < dm) : x1 < dm := by
  first | assumption | omega | decide
theorem lf_X0_common_3 (a : Nat → Nat) (dm : Nat) (d0 : Nat → Int32) (d1 : Nat → Int32) (d2 : Nat → Int32) (d3 : Nat → Int32) (x1 : Nat) (x2 : Nat) (hdm : dm ≤ 4) (hx1 : x1 < dm) (hx2 : x2 < dm) : x2 < dm := by
  first | assumption | omega | decide
theorem lf_X0_common_7 (a : Nat → Nat) (dm : Nat) (d0 : Nat → Int32) (d1 : Nat → Int32) (d2 : Nat → Int32) (d3 : Nat → Int32) (x1 : Nat) (x2 : Nat) (hdm : dm ≤ 4) (hx1 : x1 < dm) (hx2 : x2 < dm) (d3_5 : Nat → Int32) (mm_6 : Nat) (hmm_6 : mm_6 ≤ 384) : ∃ m : Nat, m ≤ 384 ∧ (nI mm_6 : Int32) = nI m := by
  exact ⟨_, by omega, rfl⟩
set_option maxHeartbeats 4000000 in
set_option maxRecDepth 100000 in
theorem c_X0_common (l : Launch) (D : va_G) (cI cB cZ cJ : ClassId) (tx : List (ClassId × FieldType)) (a : Nat → Nat) (dm : Nat) (d0 : Nat → Int32) (d1 : Nat → Int32) (d2 : Nat → Int32) (d3 : Nat → Int32) (x1 : Nat) (x2 : Nat) (hdm : dm ≤ 4) (hx1 : x1 < dm) (hx2 : x2 < dm) : WrI l D cI cB cZ cJ tx yX0_common cX0_common 3 (some .int) 4 0 0 [.ref (a 6), .int (nI x1), .int (nI x2)] [(a 6, .inr (0, [.ref (a 5), .ref (a 25), .ref (a 26), .ref (a 27), .ref (a 28), .ref (a 29), .int (nI dm)])), (a 25, .inl (cI, 1536, .inl d0)), (a 26, .inl (cI, 1536, .inl d1)), (a 27, .inl (cZ, 1536, .inl d2)), (a 28, .inl (cI, 384, .inl d3))] (fun (r : Int32) (v : (Nat → Int32)) => ∃ m : Nat, m ≤ 384 ∧ r = nI m) (fun v => [(a 6, .inr (0, [.ref (a 5), .ref (a 25), .ref (a 26), .ref (a 27), .ref (a 28), .ref (a 29), .int (nI dm)])), (a 25, .inl (cI, 1536, .inl d0)), (a 26, .inl (cI, 1536, .inl d1)), (a 27, .inl (cZ, 1536, .inl d2)), (a 28, .inl (cI, 384, .inl v))]) := by
  refine wri_of2 (by decide) (Nat.le_of_ble_eq_true rfl) ?_
  intro p e s m below meth c A ls H locs hC hK hP hD hA hS hl
  obtain ⟨hx, hb, hr, hml, hown, hts, hlocks, hin⟩ := hC
  have hown : s.vm.findClass RX0 = some m.cls := hown
  have hl : lv_has ls 3 [(0, .ref (a 6)), (1, .int (nI x1)), (2, .int (nI x2))] := hl
  refine lv_aload_n hx hb dX0_common_0 rfl (lv_at hl 0 rfl) ?_
  refine lv_iload_n hx hb dX0_common_1 rfl (lv_at hl 1 rfl) ?_
  refine lv_iload_n hx hb dX0_common_2 rfl (lv_at hl 2 rfl) ?_
  refine lv_iconst (v := 0) hx hb dX0_common_3 (by decide) ?_
  refine lv_aload_n hx hb dX0_common_4 rfl (lv_at hl 0 rfl) ?_
  refine va_get (D := D) (ci := 0) (v := .ref (a 28)) (C := RX0) (T := TX0) (N := 7) hx hb hts inT_X0 hown hK.1 hP 0 rfl rfl 4 (by decide) (hts _ k_298) (fun _ h9 => h9) rfl dX0_common_5 ?_
  refine eWi (wr := []) (va_runV (As := [.int (nI x1), .int (nI x2), .int 0, .ref (a 28)]) (rest := []) ⟨hx, hb, hml, hown, hts⟩ (c_X0_gather_d3 l D cI cB cZ cJ tx a dm d0 d1 d2 d3 x1 x2 0 (lf_X0_common_1 a dm d0 d1 d2 d3 x1 x2 hdm hx1 hx2) (lf_X0_common_2 a dm d0 d1 d2 d3 x1 x2 hdm hx1 hx2) (lf_X0_common_3 a dm d0 d1 d2 d3 x1 x2 hdm hx1 hx2) H.size) (zV hts k_951 v_X0_gather ⟨Nat.le_of_ble_eq_true rfl, Nat.le_of_ble_eq_true rfl⟩) (pV (pxS hK hP hD [0, 1, 2, 3, 4] (by decide) rfl) hK hP 0 rfl rfl) rfl rfl hl.1 rfl (lv_room (Nat.le_of_ble_eq_true rfl)) dX0_common_8 ⟨Nat.le_of_ble_eq_true rfl, Nat.le_of_ble_eq_true rfl⟩) hP hD hS hA [0, 1, 2, 3, 4] [] rfl rfl (by decide) (by decide) (fun r_4 u_5 H locs wr_4 hP hD hS => ?_)
  obtain ⟨d3_5, rfl⟩ : ∃ z, z = u_5 := ⟨_, rfl⟩
  have hP : va_P D vwCl [(a 6, .inr (0, [.ref (a 5), .ref (a 25), .ref (a 26), .ref (a 27), .ref (a 28), .ref (a 29), .int (nI dm)])), (a 25, .inl (cI, 1536, .inl d0)), (a 26, .inl (cI, 1536, .inl d1)), (a 27, .inl (cZ, 1536, .inl d2)), (a 28, .inl (cI, 384, .inl d3_5))] H := hP
  have hD : va_D A [(a 6, .inr (0, [.ref (a 5), .ref (a 25), .ref (a 26), .ref (a 27), .ref (a 28), .ref (a 29), .int (nI dm)])), (a 25, .inl (cI, 1536, .inl d0)), (a 26, .inl (cI, 1536, .inl d1)), (a 27, .inl (cZ, 1536, .inl d2)), (a 28, .inl (cI, 384, .inl d3_5))] := hD
  rcases wr_4 with ⟨mm_6, hmm_6, rfl⟩
  · exact W.iret (v := nI mm_6) hx hb hr (fun tt9 ht hW => ⟨⟨(nI mm_6 : Int32), ((d3_5 : Nat → Int32)), rfl, (lf_X0_common_7 a dm d0 d1 d2 d3 x1 x2 hdm hx1 hx2 d3_5 mm_6 hmm_6), ⟨by rw [ht]; exact hP, hD⟩⟩, hS.F ht⟩) hS.2.2 dX0_common_11 hlocks

theorem lf_X0_shift_1 (a : Nat → Nat) (dm : Nat) (d0 : Nat → Int32) (d1 : Nat → Int32) (d2 : Nat → Int32) (d3 : Nat → Int32) (x1 : Nat) (x2 : Nat) (n3 : Int32) (hdm : dm ≤ 4) (hx1 : x1 < dm) (hx2 : x2 < dm) : dm ≤ 4 := by
  first | assumption | omega | decide
theorem lf_X0_shift_2 (a : Nat → Nat) (dm : Nat) (d0 : Nat → Int32) (d1 : Nat → Int32) (d2 : Nat → Int32) (d3 : Nat → Int32) (x1 : Nat) (x2 : Nat) (n3 : Int32) (hdm : dm ≤ 4) (hx1 : x1 < dm) (hx2 : x2 < dm) : x1 < dm := by
  first | assumption | omega | decide
theorem lf_X0_shift_3 (a : Nat → Nat) (dm : Nat) (d0 : Nat → Int32) (d1 : Nat → Int32) (d2 : Nat → Int32) (d3 : Nat → Int32) (x1 : Nat) (x2 : Nat) (n3 : Int32) (hdm : dm ≤ 4) (hx1 : x1 < dm) (hx2 : x2 < dm) : x2 < dm := by
  first | assumption | omega | decide
theorem lf_X0_shift_7 (a : Nat → Nat) (dm : Nat) (d0 : Nat → Int32) (d1 : Nat → Int32) (d2 : Nat → Int32) (d3 : Nat → Int32) (x1 : Nat) (x2 : Nat) (n3 : Int32) (hdm : dm ≤ 4) (hx1 : x1 < dm) (hx2 : x2 < dm) (d3_5 : Nat → Int32) (mm_6 : Nat) (hmm_6 : mm_6 ≤ 384) : mm_6 ≤ 384 := by
  first | assumption | omega | decide
set_option maxHeartbeats 4000000 in
set_option maxRecDepth 100000 in
theorem c_X0_shift (l : Launch) (D : va_G) (cI cB cZ cJ : ClassId) (tx : List (ClassId × FieldType)) (a : Nat → Nat) (dm : Nat) (d0 : Nat → Int32) (d1 : Nat → Int32) (d2 : Nat → Int32) (d3 : Nat → Int32) (x1 : Nat) (x2 : Nat) (n3 : Int32) (hdm : dm ≤ 4) (hx1 : x1 < dm) (hx2 : x2 < dm) : WrI l D cI cB cZ cJ tx yX0_shift cX0_shift 4 (some .int) 4 0 0 [.ref (a 6), .int (nI x1), .int (nI x2), .int n3] [(a 6, .inr (0, [.ref (a 5), .ref (a 25), .ref (a 26), .ref (a 27), .ref (a 28), .ref (a 29), .int (nI dm)])), (a 25, .inl (cI, 1536, .inl d0)), (a 26, .inl (cI, 1536, .inl d1)), (a 27, .inl (cZ, 1536, .inl d2)), (a 28, .inl (cI, 384, .inl d3))] (fun (r : Int32) (v : (Nat → Int32)) => True) (fun v => [(a 6, .inr (0, [.ref (a 5), .ref (a 25), .ref (a 26), .ref (a 27), .ref (a 28), .ref (a 29), .int (nI dm)])), (a 25, .inl (cI, 1536, .inl d0)), (a 26, .inl (cI, 1536, .inl d1)), (a 27, .inl (cZ, 1536, .inl d2)), (a 28, .inl (cI, 384, .inl v))]) := by
  refine wri_of2 (by decide) (Nat.le_of_ble_eq_true rfl) ?_
  intro p e s m below meth c A ls H locs hC hK hP hD hA hS hl
  obtain ⟨hx, hb, hr, hml, hown, hts, hlocks, hin⟩ := hC
  have hown : s.vm.findClass RX0 = some m.cls := hown
  have hl : lv_has ls 4 [(0, .ref (a 6)), (1, .int (nI x1)), (2, .int (nI x2)), (3, .int n3)] := hl
  refine lv_aload_n hx hb dX0_shift_0 rfl (lv_at hl 0 rfl) ?_
  refine va_get (D := D) (ci := 0) (v := .ref (a 28)) (C := RX0) (T := TX0) (N := 7) hx hb hts inT_X0 hown hK.1 hP 0 rfl rfl 4 (by decide) (hts _ k_298) (fun _ h9 => h9) rfl dX0_shift_1 ?_
  refine lv_aload_n hx hb dX0_shift_4 rfl (lv_at hl 0 rfl) ?_
  refine lv_iload_n hx hb dX0_shift_5 rfl (lv_at hl 1 rfl) ?_
  refine lv_iload_n hx hb dX0_shift_6 rfl (lv_at hl 2 rfl) ?_
  refine lv_iload_n hx hb dX0_shift_7 rfl (lv_at hl 3 rfl) ?_
  refine lv_aload_n hx hb dX0_shift_8 rfl (lv_at hl 0 rfl) ?_
  refine va_get (D := D) (ci := 0) (v := .ref (a 28)) (C := RX0) (T := TX0) (N := 7) hx hb hts inT_X0 hown hK.1 hP 0 rfl rfl 4 (by decide) (hts _ k_298) (fun _ h9 => h9) rfl dX0_shift_9 ?_
  refine eWi (wr := []) (va_runV (As := [.int (nI x1), .int (nI x2), .int n3, .ref (a 28)]) (rest := [.ref (a 28)]) ⟨hx, hb, hml, hown, hts⟩ (c_X0_gather_d3 l D cI cB cZ cJ tx a dm d0 d1 d2 d3 x1 x2 n3 (lf_X0_shift_1 a dm d0 d1 d2 d3 x1 x2 n3 hdm hx1 hx2) (lf_X0_shift_2 a dm d0 d1 d2 d3 x1 x2 n3 hdm hx1 hx2) (lf_X0_shift_3 a dm d0 d1 d2 d3 x1 x2 n3 hdm hx1 hx2) H.size) (zV hts k_951 v_X0_gather ⟨Nat.le_of_ble_eq_true rfl, Nat.le_of_ble_eq_true rfl⟩) (pV (pxS hK hP hD [0, 1, 2, 3, 4] (by decide) rfl) hK hP 0 rfl rfl) rfl rfl hl.1 rfl (lv_room (Nat.le_of_ble_eq_true rfl)) dX0_shift_12 ⟨Nat.le_of_ble_eq_true rfl, Nat.le_of_ble_eq_true rfl⟩) hP hD hS hA [0, 1, 2, 3, 4] [] rfl rfl (by decide) (by decide) (fun r_4 u_5 H locs wr_4 hP hD hS => ?_)
  obtain ⟨d3_5, rfl⟩ : ∃ z, z = u_5 := ⟨_, rfl⟩
  have hP : va_P D vwCl [(a 6, .inr (0, [.ref (a 5), .ref (a 25), .ref (a 26), .ref (a 27), .ref (a 28), .ref (a 29), .int (nI dm)])), (a 25, .inl (cI, 1536, .inl d0)), (a 26, .inl (cI, 1536, .inl d1)), (a 27, .inl (cZ, 1536, .inl d2)), (a 28, .inl (cI, 384, .inl d3_5))] H := hP
  have hD : va_D A [(a 6, .inr (0, [.ref (a 5), .ref (a 25), .ref (a 26), .ref (a 27), .ref (a 28), .ref (a 29), .int (nI dm)])), (a 25, .inl (cI, 1536, .inl d0)), (a 26, .inl (cI, 1536, .inl d1)), (a 27, .inl (cZ, 1536, .inl d2)), (a 28, .inl (cI, 384, .inl d3_5))] := hD
  rcases wr_4 with ⟨mm_6, hmm_6, rfl⟩
  · refine eRi (va_runS (As := [.ref (a 28), .int (nI mm_6)]) (rest := []) ⟨hx, hb, hml, hown, hts⟩ (c_X0_lowerMedian_d3 l D cI cB cZ cJ tx a d3_5 mm_6 (lf_X0_shift_7 a dm d0 d1 d2 d3 x1 x2 n3 hdm hx1 hx2 d3_5 mm_6 hmm_6) H.size) (zS hts k_960 v_X0_lowerMedian ⟨Nat.le_of_ble_eq_true rfl, Nat.le_of_ble_eq_true rfl⟩) (px1 hK hP 4 rfl) rfl rfl hl.1 rfl (lv_room (Nat.le_of_ble_eq_true rfl)) dX0_shift_15 ⟨Nat.le_of_ble_eq_true rfl, Nat.le_of_ble_eq_true rfl⟩) hP hS hA (fun r_8 H locs wr_8 hP hS => ?_)
    exact W.iret (v := r_8) hx hb hr (fun tt9 ht hW => ⟨⟨(r_8 : Int32), ((d3_5 : Nat → Int32)), rfl, trivial, ⟨by rw [ht]; exact hP, hD⟩⟩, hS.F ht⟩) hS.2.2 dX0_shift_18 hlocks
