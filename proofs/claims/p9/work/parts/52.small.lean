theorem lf_X12_thole_3 (h : Nat) (q : Nat → Nat) (im : Nat → Int32) (ms : Nat) (m_tholes : Nat → Int32) (n1 : Int32) (n2 : Int32) (n3 : Int32) (hf_ms : im 2 = nI ms) (hms : ms ≤ 24) (c_2 : (0 : Int32) ≤ n1 ∧ n1 ≤ nI ms - 1) : ms < 2 ^ 31 := by
  omega
theorem lf_X12_thole_9 (h : Nat) (q : Nat → Nat) (im : Nat → Int32) (ms : Nat) (m_tholes : Nat → Int32) (n1 : Int32) (n2 : Int32) (n3 : Int32) (hf_ms : im 2 = nI ms) (hms : ms ≤ 24) (c_2 : (0 : Int32) ≤ n1 ∧ n1 ≤ nI ms - 1) (tn1 : Nat) (tn1a : tn1 < ms) (tn1e : n1 = nI tn1) (c_5 : (0 : Int32) ≤ n2 ∧ n2 ≤ 1) (tn2 : Nat) (tn2a : 0 ≤ tn2) (tn2b : tn2 ≤ 1) (tn2e : n2 = nI tn2) (c_7 : ((-1) : Int32) ≤ n3 ∧ n3 ≤ 1) : vp_in (nI ((2 * tn1) + tn2)) 48 := by
  first | exact vp_in_nI (by omega) (by decide) | (unfold vp_in; decide)
set_option maxHeartbeats 4000000 in
set_option maxRecDepth 100000 in
theorem c_X12_thole (l : Launch) (D : va_G) (cI cB cZ cJ : ClassId) (tx : List (ClassId × FieldType)) (h : Nat) (q : Nat → Nat) (im : Nat → Int32) (ms : Nat) (m_tholes : Nat → Int32) (n1 : Int32) (n2 : Int32) (n3 : Int32) (hf_ms : im 2 = nI ms) (hms : ms ≤ 24) : WrI l D cI cB cZ cJ tx yX12_thole cX12_thole 4 (some .boolean) 2 0 0 [.ref h, .int n1, .int n2, .int n3] [(h, .inr (12, mG q im)), (q 73, .inl (cI, 48, .inl m_tholes))] (fun (r : Int32) (v : (Nat → Int32)) => True) (fun v => [(h, .inr (12, mG q im)), (q 73, .inl (cI, 48, .inl v))]) := by
  refine wri_of2 (by decide) (Nat.le_of_ble_eq_true rfl) ?_
  intro p e s m below meth c A ls H locs hC hK hP hD hA hS hl
  obtain ⟨hx, hb, hr, hml, hown, hts, hlocks, hin⟩ := hC
  have hown : s.vm.findClass RX12 = some m.cls := hown
  have hl : lv_has ls 4 [(0, .ref h), (1, .int n1), (2, .int n2), (3, .int n3)] := hl
  refine lv_aload_n hx hb dX12_thole_0 rfl (lv_at hl 0 rfl) ?_
  refine lv_iload_n hx hb dX12_thole_1 rfl (lv_at hl 1 rfl) ?_
  refine eRi (va_runV (As := [.int n1]) (rest := []) ⟨hx, hb, hml, hown, hts⟩ (c_X12_isStation l D cI cB cZ cJ tx h q im ms n1 hf_ms H.size) (zV hts k_1803 v_X12_isStation ⟨Nat.le_of_ble_eq_true rfl, Nat.le_of_ble_eq_true rfl⟩) (pV (px1 hK hP 0 rfl) hK hP 0 rfl rfl) rfl rfl hl.1 rfl (lv_room (Nat.le_of_ble_eq_true rfl)) dX12_thole_2 ⟨Nat.le_of_ble_eq_true rfl, Nat.le_of_ble_eq_true rfl⟩) hP hS hA (fun r_1 H locs wr_1 hP hS => ?_)
  subst wr_1
  refine lv_bi_eq (tgt := 30) hx hb dX12_thole_5 (by decide) (fun c_2 => ?_) (fun c_2 => ?_)
  · refine lv_iconst (v := 0) hx hb dX12_thole_30 (by decide) ?_
    exact W.zret (v := 0) hx hb hr (by decide) (fun tt9 ht hW => ⟨⟨(0 : Int32), ((m_tholes : Nat → Int32)), rfl, trivial, ⟨by rw [ht]; exact hP, hD⟩⟩, hS.F ht⟩) hS.2.2 dX12_thole_31 hlocks
  · obtain ⟨tn1, tn1a, tn1e⟩ := of_within (lf_X12_thole_3 h q im ms m_tholes n1 n2 n3 hf_ms hms c_2) c_2
    subst tn1e
    refine lv_iload_n hx hb dX12_thole_8 rfl (lv_at hl 2 rfl) ?_
    refine lv_i2l (v := n2.toInt64) hx hb dX12_thole_9 rfl ?_
    refine lv_lconst (v := 0) hx hb dX12_thole_10 (by decide) ?_
    refine lv_lconst (v := 1) hx hb dX12_thole_11 (by decide) ?_
    refine eRi (va_runS (As := [.long n2.toInt64, .long 0, .long 1]) (rest := []) ⟨hx, hb, hml, hown, hts⟩ (c_X12_isIn l D cI cB cZ cJ tx n2.toInt64 0 1 H.size) (zS hts k_1602 v_X12_isIn ⟨Nat.le_of_ble_eq_true rfl, Nat.le_of_ble_eq_true rfl⟩) (px0 hK) rfl rfl hl.1 rfl (lv_room (Nat.le_of_ble_eq_true rfl)) dX12_thole_12 ⟨Nat.le_of_ble_eq_true rfl, Nat.le_of_ble_eq_true rfl⟩) hP hS hA (fun r_4 H locs wr_4 hP hS => ?_)
    have wr_4 : r_4 = bi ((0 : Int32) ≤ n2 ∧ n2 ≤ 1) := isIn32 (lo := 0) (hi := 1) (by decide) (by decide) wr_4
    subst wr_4
    refine lv_bi_eq (tgt := 30) hx hb dX12_thole_15 (by decide) (fun c_5 => ?_) (fun c_5 => ?_)
    · refine lv_iconst (v := 0) hx hb dX12_thole_30 (by decide) ?_
      exact W.zret (v := 0) hx hb hr (by decide) (fun tt9 ht hW => ⟨⟨(0 : Int32), ((m_tholes : Nat → Int32)), rfl, trivial, ⟨by rw [ht]; exact hP, hD⟩⟩, hS.F ht⟩) hS.2.2 dX12_thole_31 hlocks
    · obtain ⟨tn2, tn2a, tn2b, tn2e⟩ := of_rng 0 1 rfl rfl c_5
      subst tn2e
      refine lv_iload_n hx hb dX12_thole_18 rfl (lv_at hl 3 rfl) ?_
      refine lv_i2l (v := n3.toInt64) hx hb dX12_thole_19 rfl ?_
      refine lv_ldc2 (v := (-1)) hx hb hown (hts _ k_1950) dX12_thole_20 ?_
      refine lv_lconst (v := 1) hx hb dX12_thole_23 (by decide) ?_
      refine eRi (va_runS (As := [.long n3.toInt64, .long (-1), .long 1]) (rest := []) ⟨hx, hb, hml, hown, hts⟩ (c_X12_isIn l D cI cB cZ cJ tx n3.toInt64 (-1) 1 H.size) (zS hts k_1602 v_X12_isIn ⟨Nat.le_of_ble_eq_true rfl, Nat.le_of_ble_eq_true rfl⟩) (px0 hK) rfl rfl hl.1 rfl (lv_room (Nat.le_of_ble_eq_true rfl)) dX12_thole_24 ⟨Nat.le_of_ble_eq_true rfl, Nat.le_of_ble_eq_true rfl⟩) hP hS hA (fun r_6 H locs wr_6 hP hS => ?_)
      have wr_6 : r_6 = bi (((-1) : Int32) ≤ n3 ∧ n3 ≤ 1) := isIn32 (lo := (-1)) (hi := 1) (by decide) (by decide) wr_6
      subst wr_6
      refine lv_bi_ne (tgt := 32) hx hb dX12_thole_27 (by decide) (fun c_7 => ?_) (fun c_7 => ?_)
      · refine lv_aload_n hx hb dX12_thole_32 rfl (lv_at hl 0 rfl) ?_
        refine va_get (D := D) (ci := 12) (v := .ref (q 73)) (C := RX12) (T := TX12) (N := 81) hx hb hts inT_X12 hown hK.1 hP 0 rfl rfl 73 (by decide) (hts _ k_1426) (fun _ h9 => h9) rfl dX12_thole_33 ?_
        refine lv_iconst (v := 2) hx hb dX12_thole_36 (by decide) ?_
        refine lv_iload_n hx hb dX12_thole_37 rfl (lv_at hl 1 rfl) ?_
        refine lv_imul hx hb dX12_thole_38 ?_
        refine lv_topv (y := nI (2 * tn1)) (pk_mul 2 tn1) ?_
        refine lv_iload_n hx hb dX12_thole_39 rfl (lv_at hl 2 rfl) ?_
        refine lv_iadd hx hb dX12_thole_40 ?_
        refine lv_topv (y := nI ((2 * tn1) + tn2)) (nI_add (2 * tn1) tn2) ?_
        refine lv_iload_n hx hb dX12_thole_41 rfl (lv_at hl 3 rfl) ?_
        refine st_i hx hb hK hP hD hS 1 rfl (lf_X12_thole_9 h q im ms m_tholes (nI tn1) (nI tn2) n3 hf_ms hms c_2 tn1 tn1a rfl c_5 tn2 tn2a tn2b rfl c_7) dX12_thole_42 (fun f_8 H locs hP hD hS => ?_)
        have hP : va_P D vwCl [(h, .inr (12, mG q im)), (q 73, .inl (cI, 48, .inl f_8))] H := hP
        have hD : va_D A [(h, .inr (12, mG q im)), (q 73, .inl (cI, 48, .inl f_8))] := hD
        refine lv_iconst (v := 1) hx hb dX12_thole_43 (by decide) ?_
        exact W.zret (v := 1) hx hb hr (by decide) (fun tt9 ht hW => ⟨⟨(1 : Int32), ((f_8 : Nat → Int32)), rfl, trivial, ⟨by rw [ht]; exact hP, hD⟩⟩, hS.F ht⟩) hS.2.2 dX12_thole_44 hlocks
      · refine lv_iconst (v := 0) hx hb dX12_thole_30 (by decide) ?_
        exact W.zret (v := 0) hx hb hr (by decide) (fun tt9 ht hW => ⟨⟨(0 : Int32), ((m_tholes : Nat → Int32)), rfl, trivial, ⟨by rw [ht]; exact hP, hD⟩⟩, hS.F ht⟩) hS.2.2 dX12_thole_31 hlocks

theorem lf_X12_tholeOf_3 (h : Nat) (q : Nat → Nat) (im : Nat → Int32) (m_tholes : Nat → Int32) (f1 : Nat) (d1 : Nat) (hf1 : f1 < 24) (hd1 : d1 < 2) (r_1 : Int32) (c_2 : r_1 = 0) : vp_in (nI ((2 * f1) + d1)) 48 := by
  first | exact vp_in_nI (by omega) (by decide) | (unfold vp_in; decide)
set_option maxHeartbeats 4000000 in
set_option maxRecDepth 100000 in
theorem c_X12_tholeOf (l : Launch) (D : va_G) (cI cB cZ cJ : ClassId) (tx : List (ClassId × FieldType)) (h : Nat) (q : Nat → Nat) (im : Nat → Int32) (m_tholes : Nat → Int32) (f1 : Nat) (d1 : Nat) (hf1 : f1 < 24) (hd1 : d1 < 2) : RdI l D cI cB cZ cJ tx yX12_tholeOf cX12_tholeOf 3 (some .int) 1 [.ref h, .int (nI f1), .int (nI d1)] [(h, .inr (12, mG q im)), (q 73, .inl (cI, 48, .inl m_tholes))] (fun r => True) := by
  refine rdi_of2 (by decide) (Nat.le_of_ble_eq_true rfl) ?_
  intro p e s m below meth c A ls H locs hC hK hP hD hA hS hl
  obtain ⟨hx, hb, hr, hml, hown, hts, hlocks, hin⟩ := hC
  have hown : s.vm.findClass RX12 = some m.cls := hown
  have hl : lv_has ls 3 [(0, .ref h), (1, .int (nI f1)), (2, .int (nI d1))] := hl
  refine lv_aload_n hx hb dX12_tholeOf_0 rfl (lv_at hl 0 rfl) ?_
  refine va_get (D := D) (ci := 12) (v := .int (im 49)) (C := RX12) (T := TX12) (N := 81) hx hb hts inT_X12 hown hK.1 hP 0 rfl rfl 49 (by decide) (hts _ k_1402) (fun _ h9 => h9) rfl dX12_tholeOf_1 ?_
  refine lv_i2l (v := (im 49).toInt64) hx hb dX12_tholeOf_4 rfl ?_
  refine lv_iload_n hx hb dX12_tholeOf_5 rfl (lv_at hl 1 rfl) ?_
  refine eRi (va_runS (As := [.long ((im 49).toInt64), .int (nI f1)]) (rest := []) ⟨hx, hb, hml, hown, hts⟩ (c_X12_has l D cI cB cZ cJ tx ((im 49).toInt64) (nI f1) H.size) (zS hts k_1825 v_X12_has ⟨Nat.le_of_ble_eq_true rfl, Nat.le_of_ble_eq_true rfl⟩) (px0 hK) rfl rfl hl.1 rfl (lv_room (Nat.le_of_ble_eq_true rfl)) dX12_tholeOf_6 ⟨Nat.le_of_ble_eq_true rfl, Nat.le_of_ble_eq_true rfl⟩) hP hS hA (fun r_1 H locs wr_1 hP hS => ?_)
  refine lv_if_eq (tgt := 16) hx hb dX12_tholeOf_9 (by decide) (fun c_2 => ?_) (fun c_2 => ?_)
  · refine lv_aload_n hx hb dX12_tholeOf_16 rfl (lv_at hl 0 rfl) ?_
    refine va_get (D := D) (ci := 12) (v := .ref (q 73)) (C := RX12) (T := TX12) (N := 81) hx hb hts inT_X12 hown hK.1 hP 0 rfl rfl 73 (by decide) (hts _ k_1426) (fun _ h9 => h9) rfl dX12_tholeOf_17 ?_
    refine lv_iconst (v := 2) hx hb dX12_tholeOf_20 (by decide) ?_
    refine lv_iload_n hx hb dX12_tholeOf_21 rfl (lv_at hl 1 rfl) ?_
    refine lv_imul hx hb dX12_tholeOf_22 ?_
    refine lv_topv (y := nI (2 * f1)) (pk_mul 2 f1) ?_
    refine lv_iload_n hx hb dX12_tholeOf_23 rfl (lv_at hl 2 rfl) ?_
    refine lv_iadd hx hb dX12_tholeOf_24 ?_
    refine lv_topv (y := nI ((2 * f1) + d1)) (nI_add (2 * f1) d1) ?_
    refine ld_i hx hb hK hP 1 rfl (lf_X12_tholeOf_3 h q im m_tholes f1 d1 hf1 hd1 r_1 c_2) dX12_tholeOf_25 (fun x_4 => ?_)
    exact W.iret (v := x_4) hx hb hr (fun tt9 ht hW => ⟨⟨(x_4 : Int32), (), rfl, trivial, trivial⟩, hS.F ht⟩) hS.2.2 dX12_tholeOf_26 hlocks
  · refine lv_iconst (v := (-1)) hx hb dX12_tholeOf_12 (by decide) ?_
    refine lv_goto (tgt := 26) hx hb dX12_tholeOf_13 (by decide) ?_
    exact W.iret (v := (-1)) hx hb hr (fun tt9 ht hW => ⟨⟨((-1) : Int32), (), rfl, trivial, trivial⟩, hS.F ht⟩) hS.2.2 dX12_tholeOf_26 hlocks

theorem lf_X12_tholesThat_3 (h : Nat) (q : Nat → Nat) (im : Nat → Int32) (ms : Nat) (m_tholes : Nat → Int32) (n1 : Int32) (hf_ms : im 2 = nI ms) (hms : ms ≤ 24) (j1 : Nat) (cn : Nat) (k4 : Nat) (hj4 : j1 ≤ ms) (hk4 : ms < j1 + (k4 + 1)) (hcn : cn ≤ 2 * j1) (c_1 : nI ms ≤ nI j1) : ms ≤ j1 := by
  exact (nI_leI (a := ms) (b := j1) (by omega) (by omega)).mp c_1
theorem lf_X12_tholesThat_4 (h : Nat) (q : Nat → Nat) (im : Nat → Int32) (ms : Nat) (m_tholes : Nat → Int32) (n1 : Int32) (hf_ms : im 2 = nI ms) (hms : ms ≤ 24) (j1 : Nat) (cn : Nat) (k4 : Nat) (hj4 : j1 ≤ ms) (hk4 : ms < j1 + (k4 + 1)) (hcn : cn ≤ 2 * j1) (c_1 : nI ms ≤ nI j1) (n_2 : ms ≤ j1) : ∃ m : Nat, m ≤ 48 ∧ (nI cn : Int32) = nI m := by
  exact ⟨_, by omega, rfl⟩
theorem lf_X12_tholesThat_6 (h : Nat) (q : Nat → Nat) (im : Nat → Int32) (ms : Nat) (m_tholes : Nat → Int32) (n1 : Int32) (hf_ms : im 2 = nI ms) (hms : ms ≤ 24) (j1 : Nat) (cn : Nat) (k4 : Nat) (hj4 : j1 ≤ ms) (hk4 : ms < j1 + (k4 + 1)) (hcn : cn ≤ 2 * j1) (c_1 : ¬ nI ms ≤ nI j1) : j1 < ms := by
  exact Nat.lt_of_not_le (fun q => c_1 ((nI_leI (a := ms) (b := j1) (by omega) (by omega)).mpr q))
theorem lf_X12_tholesThat_7 (h : Nat) (q : Nat → Nat) (im : Nat → Int32) (ms : Nat) (m_tholes : Nat → Int32) (n1 : Int32) (hf_ms : im 2 = nI ms) (hms : ms ≤ 24) (j1 : Nat) (cn : Nat) (k4 : Nat) (hj4 : j1 ≤ ms) (hk4 : ms < j1 + (k4 + 1)) (hcn : cn ≤ 2 * j1) (c_1 : ¬ nI ms ≤ nI j1) (n_5 : j1 < ms) : j1 < 24 := by
  first | assumption | omega | decide | rfl
theorem lf_X12_tholesThat_8 (h : Nat) (q : Nat → Nat) (im : Nat → Int32) (ms : Nat) (m_tholes : Nat → Int32) (n1 : Int32) (hf_ms : im 2 = nI ms) (hms : ms ≤ 24) (j1 : Nat) (cn : Nat) (k4 : Nat) (hj4 : j1 ≤ ms) (hk4 : ms < j1 + (k4 + 1)) (hcn : cn ≤ 2 * j1) (c_1 : ¬ nI ms ≤ nI j1) (n_5 : j1 < ms) : 0 < 2 := by
  first | assumption | omega | decide | rfl
theorem lf_X12_tholesThat_11 (h : Nat) (q : Nat → Nat) (im : Nat → Int32) (ms : Nat) (m_tholes : Nat → Int32) (n1 : Int32) (hf_ms : im 2 = nI ms) (hms : ms ≤ 24) (j1 : Nat) (cn : Nat) (k4 : Nat) (hj4 : j1 ≤ ms) (hk4 : ms < j1 + (k4 + 1)) (hcn : cn ≤ 2 * j1) (c_1 : ¬ nI ms ≤ nI j1) (n_5 : j1 < ms) (r_9 : Int32) (c_10 : ¬ r_9 = n1) : j1 < 24 := by
  first | assumption | omega | decide | rfl
theorem lf_X12_tholesThat_12 (h : Nat) (q : Nat → Nat) (im : Nat → Int32) (ms : Nat) (m_tholes : Nat → Int32) (n1 : Int32) (hf_ms : im 2 = nI ms) (hms : ms ≤ 24) (j1 : Nat) (cn : Nat) (k4 : Nat) (hj4 : j1 ≤ ms) (hk4 : ms < j1 + (k4 + 1)) (hcn : cn ≤ 2 * j1) (c_1 : ¬ nI ms ≤ nI j1) (n_5 : j1 < ms) (r_9 : Int32) (c_10 : ¬ r_9 = n1) : 1 < 2 := by
  first | assumption | omega | decide | rfl
theorem lf_X12_tholesThat_15 (h : Nat) (q : Nat → Nat) (im : Nat → Int32) (ms : Nat) (m_tholes : Nat → Int32) (n1 : Int32) (hf_ms : im 2 = nI ms) (hms : ms ≤ 24) (j1 : Nat) (cn : Nat) (k4 : Nat) (hj4 : j1 ≤ ms) (hk4 : ms < j1 + (k4 + 1)) (hcn : cn ≤ 2 * j1) (c_1 : ¬ nI ms ≤ nI j1) (n_5 : j1 < ms) (r_9 : Int32) (c_10 : ¬ r_9 = n1) (r_13 : Int32) (c_14 : ¬ r_13 = n1) : ((cn + 0)) ≤ 2 * (j1 + 1) := by
  first | assumption | omega
theorem lf_X12_tholesThat_16 (h : Nat) (q : Nat → Nat) (im : Nat → Int32) (ms : Nat) (m_tholes : Nat → Int32) (n1 : Int32) (hf_ms : im 2 = nI ms) (hms : ms ≤ 24) (j1 : Nat) (cn : Nat) (k4 : Nat) (hj4 : j1 ≤ ms) (hk4 : ms < j1 + (k4 + 1)) (hcn : cn ≤ 2 * j1) (c_1 : ¬ nI ms ≤ nI j1) (n_5 : j1 < ms) (r_9 : Int32) (c_10 : ¬ r_9 = n1) (r_13 : Int32) (c_14 : r_13 = n1) : ((cn + 1)) ≤ 2 * (j1 + 1) := by
  first | assumption | omega
theorem lf_X12_tholesThat_17 (h : Nat) (q : Nat → Nat) (im : Nat → Int32) (ms : Nat) (m_tholes : Nat → Int32) (n1 : Int32) (hf_ms : im 2 = nI ms) (hms : ms ≤ 24) (j1 : Nat) (cn : Nat) (k4 : Nat) (hj4 : j1 ≤ ms) (hk4 : ms < j1 + (k4 + 1)) (hcn : cn ≤ 2 * j1) (c_1 : ¬ nI ms ≤ nI j1) (n_5 : j1 < ms) (r_9 : Int32) (c_10 : r_9 = n1) : j1 < 24 := by
  first | assumption | omega | decide | rfl
theorem lf_X12_tholesThat_18 (h : Nat) (q : Nat → Nat) (im : Nat → Int32) (ms : Nat) (m_tholes : Nat → Int32) (n1 : Int32) (hf_ms : im 2 = nI ms) (hms : ms ≤ 24) (j1 : Nat) (cn : Nat) (k4 : Nat) (hj4 : j1 ≤ ms) (hk4 : ms < j1 + (k4 + 1)) (hcn : cn ≤ 2 * j1) (c_1 : ¬ nI ms ≤ nI j1) (n_5 : j1 < ms) (r_9 : Int32) (c_10 : r_9 = n1) : 1 < 2 := by
  first | assumption | omega | decide | rfl
theorem lf_X12_tholesThat_21 (h : Nat) (q : Nat → Nat) (im : Nat → Int32) (ms : Nat) (m_tholes : Nat → Int32) (n1 : Int32) (hf_ms : im 2 = nI ms) (hms : ms ≤ 24) (j1 : Nat) (cn : Nat) (k4 : Nat) (hj4 : j1 ≤ ms) (hk4 : ms < j1 + (k4 + 1)) (hcn : cn ≤ 2 * j1) (c_1 : ¬ nI ms ≤ nI j1) (n_5 : j1 < ms) (r_9 : Int32) (c_10 : r_9 = n1) (r_19 : Int32) (c_20 : ¬ r_19 = n1) : ((cn + 1)) ≤ 2 * (j1 + 1) := by
  first | assumption | omega
theorem lf_X12_tholesThat_22 (h : Nat) (q : Nat → Nat) (im : Nat → Int32) (ms : Nat) (m_tholes : Nat → Int32) (n1 : Int32) (hf_ms : im 2 = nI ms) (hms : ms ≤ 24) (j1 : Nat) (cn : Nat) (k4 : Nat) (hj4 : j1 ≤ ms) (hk4 : ms < j1 + (k4 + 1)) (hcn : cn ≤ 2 * j1) (c_1 : ¬ nI ms ≤ nI j1) (n_5 : j1 < ms) (r_9 : Int32) (c_10 : r_9 = n1) (r_19 : Int32) (c_20 : r_19 = n1) : ((cn + 2)) ≤ 2 * (j1 + 1) := by
  first | assumption | omega
theorem lf_X12_tholesThat_23 (h : Nat) (q : Nat → Nat) (im : Nat → Int32) (ms : Nat) (m_tholes : Nat → Int32) (n1 : Int32) (hf_ms : im 2 = nI ms) (hms : ms ≤ 24) : 0 ≤ 2 * 0 := by
  first | assumption | omega
set_option maxHeartbeats 4000000 in
set_option maxRecDepth 100000 in
theorem c_X12_tholesThat (l : Launch) (D : va_G) (cI cB cZ cJ : ClassId) (tx : List (ClassId × FieldType)) (h : Nat) (q : Nat → Nat) (im : Nat → Int32) (ms : Nat) (m_tholes : Nat → Int32) (n1 : Int32) (hf_ms : im 2 = nI ms) (hms : ms ≤ 24) : RdI l D cI cB cZ cJ tx yX12_tholesThat cX12_tholesThat 4 (some .int) 2 [.ref h, .int n1] [(h, .inr (12, mG q im)), (q 73, .inl (cI, 48, .inl m_tholes))] (fun r => ∃ m : Nat, m ≤ 48 ∧ r = nI m) := by
  refine rdi_of2 (by decide) (Nat.le_of_ble_eq_true rfl) ?_
  intro p e s m below meth c A ls H locs hC hK hP hD hA hS hl
  obtain ⟨hx, hb, hr, hml, hown, hts, hlocks, hin⟩ := hC
  have hown : s.vm.findClass RX12 = some m.cls := hown
  have hl : lv_has ls 4 [(0, .ref h), (1, .int n1)] := hl
  refine lv_iconst (v := 0) hx hb dX12_tholesThat_0 (by decide) ?_
  refine lv_istore_n (lv' := [(2, .int 0), (0, .ref h), (1, .int n1)]) hx hb dX12_tholesThat_1 rfl hl (by decide) rfl (fun ls hl => ?_)
  refine lv_iconst (v := 0) hx hb dX12_tholesThat_2 (by decide) ?_
  refine lv_istore_n (lv' := [(3, .int 0), (2, .int 0), (0, .ref h), (1, .int n1)]) hx hb dX12_tholesThat_3 rfl hl (by decide) rfl (fun ls hl => ?_)
  have lp4 : ∀ (k4 : Nat) (j1 : Nat) (cn : Nat) (H : Heap) (locs : List Loc) (ls : Array Slot), j1 ≤ ms → ms < j1 + k4 → (cn ≤ 2 * j1) → va_P D vwCl [(h, .inr (12, mG q im)), (q 73, .inl (cI, 48, .inl m_tholes))] H → va_S A s.heap H locs → lv_has ls 4 [(3, .int (nI j1)), (2, .int (nI cn)), (0, .ref h), (1, .int n1)] → W p l e (rmX 2 0 0) s m ([.ref h, .int n1] : List Value).toArray below meth c H locs 0 0 (MQ below (va_Qi (fun r (_ : Unit) => (fun r => ∃ m : Nat, m ≤ 48 ∧ r = nI m) r) (fun _ _ => True) A) ([.ref h, .int n1] : List Value).toArray s 0 0 A) (F0 m 4 ls []) := by
    intro k4
    induction k4 with
    | zero =>
      intro j1 cn H locs ls hj4 hk4 hcn hP hS hl
      exact absurd hk4 (by omega)
    | succ k4 ih4 =>
      intro j1 cn H locs ls hj4 hk4 hcn hP hS hl
      refine lv_iload_n hx hb dX12_tholesThat_4 rfl (lv_at hl 0 rfl) ?_
      refine lv_aload_n hx hb dX12_tholesThat_5 rfl (lv_at hl 2 rfl) ?_
      refine va_get (D := D) (ci := 12) (v := .int (im 2)) (C := RX12) (T := TX12) (N := 81) hx hb hts inT_X12 hown hK.1 hP 0 rfl rfl 2 (by decide) (hts _ k_1355) (fun _ h9 => h9) rfl dX12_tholesThat_6 ?_
      refine lv_topv (y := nI ms) hf_ms ?_
      refine lv_icmp_ge (tgt := 52) hx hb dX12_tholesThat_9 (by decide) (fun c_1 => ?_) (fun c_1 => ?_)
      · have n_2 : ms ≤ j1 := (lf_X12_tholesThat_3 h q im ms m_tholes n1 hf_ms hms j1 cn k4 hj4 hk4 hcn c_1)
        refine lv_iload_n hx hb dX12_tholesThat_52 rfl (lv_at hl 1 rfl) ?_
        exact W.iret (v := nI cn) hx hb hr (fun tt9 ht hW => ⟨⟨(nI cn : Int32), (), rfl, (lf_X12_tholesThat_4 h q im ms m_tholes n1 hf_ms hms j1 cn k4 hj4 hk4 hcn c_1 n_2), trivial⟩, hS.F ht⟩) hS.2.2 dX12_tholesThat_53 hlocks
      · have n_5 : j1 < ms := (lf_X12_tholesThat_6 h q im ms m_tholes n1 hf_ms hms j1 cn k4 hj4 hk4 hcn c_1)
        refine lv_iload_n hx hb dX12_tholesThat_12 rfl (lv_at hl 1 rfl) ?_
        refine lv_aload_n hx hb dX12_tholesThat_13 rfl (lv_at hl 2 rfl) ?_
        refine lv_iload_n hx hb dX12_tholesThat_14 rfl (lv_at hl 0 rfl) ?_
        refine lv_iconst (v := 0) hx hb dX12_tholesThat_15 (by decide) ?_
        refine eRi (va_runV (As := [.int (nI j1), .int 0]) (rest := [.int (nI cn)]) ⟨hx, hb, hml, hown, hts⟩ (c_X12_tholeOf l D cI cB cZ cJ tx h q im m_tholes j1 0 (lf_X12_tholesThat_7 h q im ms m_tholes n1 hf_ms hms j1 cn k4 hj4 hk4 hcn c_1 n_5) (lf_X12_tholesThat_8 h q im ms m_tholes n1 hf_ms hms j1 cn k4 hj4 hk4 hcn c_1 n_5) H.size) (zV hts k_1992 v_X12_tholeOf ⟨Nat.le_of_ble_eq_true rfl, Nat.le_of_ble_eq_true rfl⟩) (pV (pxS hK hP hD [0, 1] (by decide) rfl) hK hP 0 rfl rfl) rfl rfl hl.1 rfl (lv_room (Nat.le_of_ble_eq_true rfl)) dX12_tholesThat_16 ⟨Nat.le_of_ble_eq_true rfl, Nat.le_of_ble_eq_true rfl⟩) hP hS hA (fun r_9 H locs wr_9 hP hS => ?_)
        refine lv_iload_n hx hb dX12_tholesThat_19 rfl (lv_at hl 3 rfl) ?_
        refine lv_icmp_ne (tgt := 27) hx hb dX12_tholesThat_20 (by decide) (fun c_10 => ?_) (fun c_10 => ?_)
        · refine lv_iconst (v := 0) hx hb dX12_tholesThat_27 (by decide) ?_
          refine lv_aload_n hx hb dX12_tholesThat_28 rfl (lv_at hl 2 rfl) ?_
          refine lv_iload_n hx hb dX12_tholesThat_29 rfl (lv_at hl 0 rfl) ?_
          refine lv_iconst (v := 1) hx hb dX12_tholesThat_30 (by decide) ?_
          refine eRi (va_runV (As := [.int (nI j1), .int 1]) (rest := [.int 0, .int (nI cn)]) ⟨hx, hb, hml, hown, hts⟩ (c_X12_tholeOf l D cI cB cZ cJ tx h q im m_tholes j1 1 (lf_X12_tholesThat_11 h q im ms m_tholes n1 hf_ms hms j1 cn k4 hj4 hk4 hcn c_1 n_5 r_9 c_10) (lf_X12_tholesThat_12 h q im ms m_tholes n1 hf_ms hms j1 cn k4 hj4 hk4 hcn c_1 n_5 r_9 c_10) H.size) (zV hts k_1992 v_X12_tholeOf ⟨Nat.le_of_ble_eq_true rfl, Nat.le_of_ble_eq_true rfl⟩) (pV (pxS hK hP hD [0, 1] (by decide) rfl) hK hP 0 rfl rfl) rfl rfl hl.1 rfl (lv_room (Nat.le_of_ble_eq_true rfl)) dX12_tholesThat_31 ⟨Nat.le_of_ble_eq_true rfl, Nat.le_of_ble_eq_true rfl⟩) hP hS hA (fun r_13 H locs wr_13 hP hS => ?_)
          refine lv_iload_n hx hb dX12_tholesThat_34 rfl (lv_at hl 3 rfl) ?_
          refine lv_icmp_ne (tgt := 42) hx hb dX12_tholesThat_35 (by decide) (fun c_14 => ?_) (fun c_14 => ?_)
          · refine lv_iconst (v := 0) hx hb dX12_tholesThat_42 (by decide) ?_
            refine lv_iadd hx hb dX12_tholesThat_43 ?_
            refine lv_topv (y := 0) (by decide) ?_
            refine lv_iadd hx hb dX12_tholesThat_44 ?_
            refine lv_topv (y := nI (cn + 0)) (nI_add cn 0) ?_
            refine lv_istore_n (lv' := [(2, .int (nI (cn + 0))), (3, .int (nI j1)), (0, .ref h), (1, .int n1)]) hx hb dX12_tholesThat_45 rfl hl (by decide) rfl (fun ls hl => ?_)
            refine lv_iinc (v := nI (j1 + 1)) (lv' := [(3, .int (nI (j1 + 1))), (2, .int (nI (cn + 0))), (0, .ref h), (1, .int n1)]) hx hb dX12_tholesThat_46 hl (k := 1) rfl (nI_1 j1) (by decide) rfl (fun ls hl => ?_)
            refine lv_goto (tgt := 4) hx hb dX12_tholesThat_49 (by decide) ?_
            exact ih4 (j1 + 1) (cn + 0) H locs ls (by omega) (by omega) (lf_X12_tholesThat_15 h q im ms m_tholes n1 hf_ms hms j1 cn k4 hj4 hk4 hcn c_1 n_5 r_9 c_10 r_13 c_14) (hP.sub [0, 1] rfl)  hS (lv_sub hl [0, 1, 2, 3] rfl)
          · refine lv_iconst (v := 1) hx hb dX12_tholesThat_38 (by decide) ?_
            refine lv_goto (tgt := 43) hx hb dX12_tholesThat_39 (by decide) ?_
            refine lv_iadd hx hb dX12_tholesThat_43 ?_
            refine lv_topv (y := 1) (by decide) ?_
            refine lv_iadd hx hb dX12_tholesThat_44 ?_
            refine lv_topv (y := nI (cn + 1)) (nI_add cn 1) ?_
            refine lv_istore_n (lv' := [(2, .int (nI (cn + 1))), (3, .int (nI j1)), (0, .ref h), (1, .int n1)]) hx hb dX12_tholesThat_45 rfl hl (by decide) rfl (fun ls hl => ?_)
            refine lv_iinc (v := nI (j1 + 1)) (lv' := [(3, .int (nI (j1 + 1))), (2, .int (nI (cn + 1))), (0, .ref h), (1, .int n1)]) hx hb dX12_tholesThat_46 hl (k := 1) rfl (nI_1 j1) (by decide) rfl (fun ls hl => ?_)
            refine lv_goto (tgt := 4) hx hb dX12_tholesThat_49 (by decide) ?_
            exact ih4 (j1 + 1) (cn + 1) H locs ls (by omega) (by omega) (lf_X12_tholesThat_16 h q im ms m_tholes n1 hf_ms hms j1 cn k4 hj4 hk4 hcn c_1 n_5 r_9 c_10 r_13 c_14) (hP.sub [0, 1] rfl)  hS (lv_sub hl [0, 1, 2, 3] rfl)
        · refine lv_iconst (v := 1) hx hb dX12_tholesThat_23 (by decide) ?_
          refine lv_goto (tgt := 28) hx hb dX12_tholesThat_24 (by decide) ?_
          refine lv_aload_n hx hb dX12_tholesThat_28 rfl (lv_at hl 2 rfl) ?_
          refine lv_iload_n hx hb dX12_tholesThat_29 rfl (lv_at hl 0 rfl) ?_
          refine lv_iconst (v := 1) hx hb dX12_tholesThat_30 (by decide) ?_
          refine eRi (va_runV (As := [.int (nI j1), .int 1]) (rest := [.int 1, .int (nI cn)]) ⟨hx, hb, hml, hown, hts⟩ (c_X12_tholeOf l D cI cB cZ cJ tx h q im m_tholes j1 1 (lf_X12_tholesThat_17 h q im ms m_tholes n1 hf_ms hms j1 cn k4 hj4 hk4 hcn c_1 n_5 r_9 c_10) (lf_X12_tholesThat_18 h q im ms m_tholes n1 hf_ms hms j1 cn k4 hj4 hk4 hcn c_1 n_5 r_9 c_10) H.size) (zV hts k_1992 v_X12_tholeOf ⟨Nat.le_of_ble_eq_true rfl, Nat.le_of_ble_eq_true rfl⟩) (pV (pxS hK hP hD [0, 1] (by decide) rfl) hK hP 0 rfl rfl) rfl rfl hl.1 rfl (lv_room (Nat.le_of_ble_eq_true rfl)) dX12_tholesThat_31 ⟨Nat.le_of_ble_eq_true rfl, Nat.le_of_ble_eq_true rfl⟩) hP hS hA (fun r_19 H locs wr_19 hP hS => ?_)
          refine lv_iload_n hx hb dX12_tholesThat_34 rfl (lv_at hl 3 rfl) ?_
          refine lv_icmp_ne (tgt := 42) hx hb dX12_tholesThat_35 (by decide) (fun c_20 => ?_) (fun c_20 => ?_)
          · refine lv_iconst (v := 0) hx hb dX12_tholesThat_42 (by decide) ?_
            refine lv_iadd hx hb dX12_tholesThat_43 ?_
            refine lv_topv (y := 1) (by decide) ?_
            refine lv_iadd hx hb dX12_tholesThat_44 ?_
            refine lv_topv (y := nI (cn + 1)) (nI_add cn 1) ?_
            refine lv_istore_n (lv' := [(2, .int (nI (cn + 1))), (3, .int (nI j1)), (0, .ref h), (1, .int n1)]) hx hb dX12_tholesThat_45 rfl hl (by decide) rfl (fun ls hl => ?_)
            refine lv_iinc (v := nI (j1 + 1)) (lv' := [(3, .int (nI (j1 + 1))), (2, .int (nI (cn + 1))), (0, .ref h), (1, .int n1)]) hx hb dX12_tholesThat_46 hl (k := 1) rfl (nI_1 j1) (by decide) rfl (fun ls hl => ?_)
            refine lv_goto (tgt := 4) hx hb dX12_tholesThat_49 (by decide) ?_
            exact ih4 (j1 + 1) (cn + 1) H locs ls (by omega) (by omega) (lf_X12_tholesThat_21 h q im ms m_tholes n1 hf_ms hms j1 cn k4 hj4 hk4 hcn c_1 n_5 r_9 c_10 r_19 c_20) (hP.sub [0, 1] rfl)  hS (lv_sub hl [0, 1, 2, 3] rfl)
          · refine lv_iconst (v := 1) hx hb dX12_tholesThat_38 (by decide) ?_
            refine lv_goto (tgt := 43) hx hb dX12_tholesThat_39 (by decide) ?_
            refine lv_iadd hx hb dX12_tholesThat_43 ?_
            refine lv_topv (y := 2) (by decide) ?_
            refine lv_iadd hx hb dX12_tholesThat_44 ?_
            refine lv_topv (y := nI (cn + 2)) (nI_add cn 2) ?_
            refine lv_istore_n (lv' := [(2, .int (nI (cn + 2))), (3, .int (nI j1)), (0, .ref h), (1, .int n1)]) hx hb dX12_tholesThat_45 rfl hl (by decide) rfl (fun ls hl => ?_)
            refine lv_iinc (v := nI (j1 + 1)) (lv' := [(3, .int (nI (j1 + 1))), (2, .int (nI (cn + 2))), (0, .ref h), (1, .int n1)]) hx hb dX12_tholesThat_46 hl (k := 1) rfl (nI_1 j1) (by decide) rfl (fun ls hl => ?_)
            refine lv_goto (tgt := 4) hx hb dX12_tholesThat_49 (by decide) ?_
            exact ih4 (j1 + 1) (cn + 2) H locs ls (by omega) (by omega) (lf_X12_tholesThat_22 h q im ms m_tholes n1 hf_ms hms j1 cn k4 hj4 hk4 hcn c_1 n_5 r_9 c_10 r_19 c_20) (hP.sub [0, 1] rfl)  hS (lv_sub hl [0, 1, 2, 3] rfl)
  exact lp4 (ms + 1) 0 0 H locs ls (by omega) (by omega) (lf_X12_tholesThat_23 h q im ms m_tholes n1 hf_ms hms) (hP.sub [0, 1] rfl)  hS (lv_sub hl [0, 1, 2, 3] rfl)

theorem lf_X12_oars_3 (h : Nat) (q : Nat → Nat) (im : Nat → Int32) (ms : Nat) (m_tholes : Nat → Int32) (n1 : Int32) (hf_ms : im 2 = nI ms) (hms : ms ≤ 24) (c_1 : nI ms = 0) : ms = 0 := by
  exact (nI_eq (a := ms) (b := 0) (by omega) (by omega)).mp c_1
theorem lf_X12_oars_5 (h : Nat) (q : Nat → Nat) (im : Nat → Int32) (ms : Nat) (m_tholes : Nat → Int32) (n1 : Int32) (hf_ms : im 2 = nI ms) (hms : ms ≤ 24) (c_1 : ¬ nI ms = 0) : ms ≠ 0 := by
  exact fun q => c_1 ((nI_eq (a := ms) (b := 0) (by omega) (by omega)).mpr q)
theorem lf_X12_oars_10 (h : Nat) (q : Nat → Nat) (im : Nat → Int32) (ms : Nat) (m_tholes : Nat → Int32) (n1 : Int32) (hf_ms : im 2 = nI ms) (hms : ms ≤ 24) (c_1 : ¬ nI ms = 0) (n_4 : ms ≠ 0) (c_7 : (0 : Int32) ≤ n1 ∧ n1 ≤ 3) (tn1 : Nat) (tn1a : 0 ≤ tn1) (tn1b : tn1 ≤ 3) (tn1e : n1 = nI tn1) (j1 : Nat) (w1 : Int32) (w2 : Int32) (k28 : Nat) (hj28 : j1 ≤ ms) (hk28 : ms < j1 + (k28 + 1)) (c_8 : nI ms ≤ nI j1) : ms ≤ j1 := by
  exact (nI_leI (a := ms) (b := j1) (by omega) (by omega)).mp c_8
theorem lf_X12_oars_13 (h : Nat) (q : Nat → Nat) (im : Nat → Int32) (ms : Nat) (m_tholes : Nat → Int32) (n1 : Int32) (hf_ms : im 2 = nI ms) (hms : ms ≤ 24) (c_1 : ¬ nI ms = 0) (n_4 : ms ≠ 0) (c_7 : (0 : Int32) ≤ n1 ∧ n1 ≤ 3) (tn1 : Nat) (tn1a : 0 ≤ tn1) (tn1b : tn1 ≤ 3) (tn1e : n1 = nI tn1) (j1 : Nat) (w1 : Int32) (w2 : Int32) (k28 : Nat) (hj28 : j1 ≤ ms) (hk28 : ms < j1 + (k28 + 1)) (c_8 : nI ms ≤ nI j1) (n_9 : ms ≤ j1) (c_11 : ¬ nI tn1 = 0) : tn1 ≠ 0 := by
  exact fun q => c_11 ((nI_eq (a := tn1) (b := 0) (by omega) (by omega)).mpr q)
theorem lf_X12_oars_16 (h : Nat) (q : Nat → Nat) (im : Nat → Int32) (ms : Nat) (m_tholes : Nat → Int32) (n1 : Int32) (hf_ms : im 2 = nI ms) (hms : ms ≤ 24) (c_1 : ¬ nI ms = 0) (n_4 : ms ≠ 0) (c_7 : (0 : Int32) ≤ n1 ∧ n1 ≤ 3) (tn1 : Nat) (tn1a : 0 ≤ tn1) (tn1b : tn1 ≤ 3) (tn1e : n1 = nI tn1) (j1 : Nat) (w1 : Int32) (w2 : Int32) (k28 : Nat) (hj28 : j1 ≤ ms) (hk28 : ms < j1 + (k28 + 1)) (c_8 : nI ms ≤ nI j1) (n_9 : ms ≤ j1) (c_11 : ¬ nI tn1 = 0) (n_12 : tn1 ≠ 0) (c_14 : ¬ nI tn1 = 1) : tn1 ≠ 1 := by
  exact fun q => c_14 ((nI_eq (a := tn1) (b := 1) (by omega) (by omega)).mpr q)
theorem lf_X12_oars_19 (h : Nat) (q : Nat → Nat) (im : Nat → Int32) (ms : Nat) (m_tholes : Nat → Int32) (n1 : Int32) (hf_ms : im 2 = nI ms) (hms : ms ≤ 24) (c_1 : ¬ nI ms = 0) (n_4 : ms ≠ 0) (c_7 : (0 : Int32) ≤ n1 ∧ n1 ≤ 3) (tn1 : Nat) (tn1a : 0 ≤ tn1) (tn1b : tn1 ≤ 3) (tn1e : n1 = nI tn1) (j1 : Nat) (w1 : Int32) (w2 : Int32) (k28 : Nat) (hj28 : j1 ≤ ms) (hk28 : ms < j1 + (k28 + 1)) (c_8 : nI ms ≤ nI j1) (n_9 : ms ≤ j1) (c_11 : ¬ nI tn1 = 0) (n_12 : tn1 ≠ 0) (c_14 : ¬ nI tn1 = 1) (n_15 : tn1 ≠ 1) (c_17 : ¬ nI tn1 = 2) : tn1 ≠ 2 := by
  exact fun q => c_17 ((nI_eq (a := tn1) (b := 2) (by omega) (by omega)).mpr q)
theorem lf_X12_oars_20 (h : Nat) (q : Nat → Nat) (im : Nat → Int32) (ms : Nat) (m_tholes : Nat → Int32) (n1 : Int32) (hf_ms : im 2 = nI ms) (hms : ms ≤ 24) (c_1 : ¬ nI ms = 0) (n_4 : ms ≠ 0) (c_7 : (0 : Int32) ≤ n1 ∧ n1 ≤ 3) (tn1 : Nat) (tn1a : 0 ≤ tn1) (tn1b : tn1 ≤ 3) (tn1e : n1 = nI tn1) (j1 : Nat) (w1 : Int32) (w2 : Int32) (k28 : Nat) (hj28 : j1 ≤ ms) (hk28 : ms < j1 + (k28 + 1)) (c_8 : nI ms ≤ nI j1) (n_9 : ms ≤ j1) (c_11 : ¬ nI tn1 = 0) (n_12 : tn1 ≠ 0) (c_14 : ¬ nI tn1 = 1) (n_15 : tn1 ≠ 1) (c_17 : ¬ nI tn1 = 2) (n_18 : tn1 ≠ 2) : ms ≤ 24 := by
  first | assumption | omega | decide | rfl
theorem lf_X12_oars_24 (h : Nat) (q : Nat → Nat) (im : Nat → Int32) (ms : Nat) (m_tholes : Nat → Int32) (n1 : Int32) (hf_ms : im 2 = nI ms) (hms : ms ≤ 24) (c_1 : ¬ nI ms = 0) (n_4 : ms ≠ 0) (c_7 : (0 : Int32) ≤ n1 ∧ n1 ≤ 3) (tn1 : Nat) (tn1a : 0 ≤ tn1) (tn1b : tn1 ≤ 3) (tn1e : n1 = nI tn1) (j1 : Nat) (w1 : Int32) (w2 : Int32) (k28 : Nat) (hj28 : j1 ≤ ms) (hk28 : ms < j1 + (k28 + 1)) (c_8 : nI ms ≤ nI j1) (n_9 : ms ≤ j1) (c_11 : ¬ nI tn1 = 0) (n_12 : tn1 ≠ 0) (c_14 : ¬ nI tn1 = 1) (n_15 : tn1 ≠ 1) (c_17 : nI tn1 = 2) : tn1 = 2 := by
  exact (nI_eq (a := tn1) (b := 2) (by omega) (by omega)).mp c_17
theorem lf_X12_oars_25 (h : Nat) (q : Nat → Nat) (im : Nat → Int32) (ms : Nat) (m_tholes : Nat → Int32) (n1 : Int32) (hf_ms : im 2 = nI ms) (hms : ms ≤ 24) (c_1 : ¬ nI ms = 0) (n_4 : ms ≠ 0) (c_7 : (0 : Int32) ≤ n1 ∧ n1 ≤ 3) (tn1 : Nat) (tn1a : 0 ≤ tn1) (tn1b : tn1 ≤ 3) (tn1e : n1 = nI tn1) (j1 : Nat) (w1 : Int32) (w2 : Int32) (k28 : Nat) (hj28 : j1 ≤ ms) (hk28 : ms < j1 + (k28 + 1)) (c_8 : nI ms ≤ nI j1) (n_9 : ms ≤ j1) (c_11 : ¬ nI tn1 = 0) (n_12 : tn1 ≠ 0) (c_14 : ¬ nI tn1 = 1) (n_15 : tn1 ≠ 1) (c_17 : nI tn1 = 2) (n_23 : tn1 = 2) : ms ≤ 24 := by
  first | assumption | omega | decide | rfl
theorem lf_X12_oars_28 (h : Nat) (q : Nat → Nat) (im : Nat → Int32) (ms : Nat) (m_tholes : Nat → Int32) (n1 : Int32) (hf_ms : im 2 = nI ms) (hms : ms ≤ 24) (c_1 : ¬ nI ms = 0) (n_4 : ms ≠ 0) (c_7 : (0 : Int32) ≤ n1 ∧ n1 ≤ 3) (tn1 : Nat) (tn1a : 0 ≤ tn1) (tn1b : tn1 ≤ 3) (tn1e : n1 = nI tn1) (j1 : Nat) (w1 : Int32) (w2 : Int32) (k28 : Nat) (hj28 : j1 ≤ ms) (hk28 : ms < j1 + (k28 + 1)) (c_8 : nI ms ≤ nI j1) (n_9 : ms ≤ j1) (c_11 : ¬ nI tn1 = 0) (n_12 : tn1 ≠ 0) (c_14 : ¬ nI tn1 = 1) (n_15 : tn1 ≠ 1) (c_17 : nI tn1 = 2) (n_23 : tn1 = 2) (mm_27 : Nat) (hmm_27 : mm_27 ≤ 48) : ms ≤ 24 := by
  first | assumption | omega | decide | rfl
theorem lf_X12_oars_32 (h : Nat) (q : Nat → Nat) (im : Nat → Int32) (ms : Nat) (m_tholes : Nat → Int32) (n1 : Int32) (hf_ms : im 2 = nI ms) (hms : ms ≤ 24) (c_1 : ¬ nI ms = 0) (n_4 : ms ≠ 0) (c_7 : (0 : Int32) ≤ n1 ∧ n1 ≤ 3) (tn1 : Nat) (tn1a : 0 ≤ tn1) (tn1b : tn1 ≤ 3) (tn1e : n1 = nI tn1) (j1 : Nat) (w1 : Int32) (w2 : Int32) (k28 : Nat) (hj28 : j1 ≤ ms) (hk28 : ms < j1 + (k28 + 1)) (c_8 : nI ms ≤ nI j1) (n_9 : ms ≤ j1) (c_11 : ¬ nI tn1 = 0) (n_12 : tn1 ≠ 0) (c_14 : nI tn1 = 1) : tn1 = 1 := by
  exact (nI_eq (a := tn1) (b := 1) (by omega) (by omega)).mp c_14
theorem lf_X12_oars_34 (h : Nat) (q : Nat → Nat) (im : Nat → Int32) (ms : Nat) (m_tholes : Nat → Int32) (n1 : Int32) (hf_ms : im 2 = nI ms) (hms : ms ≤ 24) (c_1 : ¬ nI ms = 0) (n_4 : ms ≠ 0) (c_7 : (0 : Int32) ≤ n1 ∧ n1 ≤ 3) (tn1 : Nat) (tn1a : 0 ≤ tn1) (tn1b : tn1 ≤ 3) (tn1e : n1 = nI tn1) (j1 : Nat) (w1 : Int32) (w2 : Int32) (k28 : Nat) (hj28 : j1 ≤ ms) (hk28 : ms < j1 + (k28 + 1)) (c_8 : nI ms ≤ nI j1) (n_9 : ms ≤ j1) (c_11 : nI tn1 = 0) : tn1 = 0 := by
  exact (nI_eq (a := tn1) (b := 0) (by omega) (by omega)).mp c_11
theorem lf_X12_oars_36 (h : Nat) (q : Nat → Nat) (im : Nat → Int32) (ms : Nat) (m_tholes : Nat → Int32) (n1 : Int32) (hf_ms : im 2 = nI ms) (hms : ms ≤ 24) (c_1 : ¬ nI ms = 0) (n_4 : ms ≠ 0) (c_7 : (0 : Int32) ≤ n1 ∧ n1 ≤ 3) (tn1 : Nat) (tn1a : 0 ≤ tn1) (tn1b : tn1 ≤ 3) (tn1e : n1 = nI tn1) (j1 : Nat) (w1 : Int32) (w2 : Int32) (k28 : Nat) (hj28 : j1 ≤ ms) (hk28 : ms < j1 + (k28 + 1)) (c_8 : ¬ nI ms ≤ nI j1) : j1 < ms := by
  exact Nat.lt_of_not_le (fun q => c_8 ((nI_leI (a := ms) (b := j1) (by omega) (by omega)).mpr q))
theorem lf_X12_oars_37 (h : Nat) (q : Nat → Nat) (im : Nat → Int32) (ms : Nat) (m_tholes : Nat → Int32) (n1 : Int32) (hf_ms : im 2 = nI ms) (hms : ms ≤ 24) (c_1 : ¬ nI ms = 0) (n_4 : ms ≠ 0) (c_7 : (0 : Int32) ≤ n1 ∧ n1 ≤ 3) (tn1 : Nat) (tn1a : 0 ≤ tn1) (tn1b : tn1 ≤ 3) (tn1e : n1 = nI tn1) (j1 : Nat) (w1 : Int32) (w2 : Int32) (k28 : Nat) (hj28 : j1 ≤ ms) (hk28 : ms < j1 + (k28 + 1)) (c_8 : ¬ nI ms ≤ nI j1) (n_35 : j1 < ms) : j1 < 24 := by
  first | assumption | omega | decide | rfl
theorem lf_X12_oars_38 (h : Nat) (q : Nat → Nat) (im : Nat → Int32) (ms : Nat) (m_tholes : Nat → Int32) (n1 : Int32) (hf_ms : im 2 = nI ms) (hms : ms ≤ 24) (c_1 : ¬ nI ms = 0) (n_4 : ms ≠ 0) (c_7 : (0 : Int32) ≤ n1 ∧ n1 ≤ 3) (tn1 : Nat) (tn1a : 0 ≤ tn1) (tn1b : tn1 ≤ 3) (tn1e : n1 = nI tn1) (j1 : Nat) (w1 : Int32) (w2 : Int32) (k28 : Nat) (hj28 : j1 ≤ ms) (hk28 : ms < j1 + (k28 + 1)) (c_8 : ¬ nI ms ≤ nI j1) (n_35 : j1 < ms) : 0 < 2 := by
  first | assumption | omega | decide | rfl
theorem lf_X12_oars_42 (h : Nat) (q : Nat → Nat) (im : Nat → Int32) (ms : Nat) (m_tholes : Nat → Int32) (n1 : Int32) (hf_ms : im 2 = nI ms) (hms : ms ≤ 24) (c_1 : ¬ nI ms = 0) (n_4 : ms ≠ 0) (c_7 : (0 : Int32) ≤ n1 ∧ n1 ≤ 3) (tn1 : Nat) (tn1a : 0 ≤ tn1) (tn1b : tn1 ≤ 3) (tn1e : n1 = nI tn1) (j1 : Nat) (w1 : Int32) (w2 : Int32) (k28 : Nat) (hj28 : j1 ≤ ms) (hk28 : ms < j1 + (k28 + 1)) (c_8 : ¬ nI ms ≤ nI j1) (n_35 : j1 < ms) (r_39 : Int32) (c_40 : ¬ r_39 = 1) (x_41 : Int32) (ex_41 : x_41 = w1 + 0) : j1 < 24 := by
  first | assumption | omega | decide | rfl
theorem lf_X12_oars_43 (h : Nat) (q : Nat → Nat) (im : Nat → Int32) (ms : Nat) (m_tholes : Nat → Int32) (n1 : Int32) (hf_ms : im 2 = nI ms) (hms : ms ≤ 24) (c_1 : ¬ nI ms = 0) (n_4 : ms ≠ 0) (c_7 : (0 : Int32) ≤ n1 ∧ n1 ≤ 3) (tn1 : Nat) (tn1a : 0 ≤ tn1) (tn1b : tn1 ≤ 3) (tn1e : n1 = nI tn1) (j1 : Nat) (w1 : Int32) (w2 : Int32) (k28 : Nat) (hj28 : j1 ≤ ms) (hk28 : ms < j1 + (k28 + 1)) (c_8 : ¬ nI ms ≤ nI j1) (n_35 : j1 < ms) (r_39 : Int32) (c_40 : ¬ r_39 = 1) (x_41 : Int32) (ex_41 : x_41 = w1 + 0) : 0 < 2 := by
  first | assumption | omega | decide | rfl
theorem lf_X12_oars_47 (h : Nat) (q : Nat → Nat) (im : Nat → Int32) (ms : Nat) (m_tholes : Nat → Int32) (n1 : Int32) (hf_ms : im 2 = nI ms) (hms : ms ≤ 24) (c_1 : ¬ nI ms = 0) (n_4 : ms ≠ 0) (c_7 : (0 : Int32) ≤ n1 ∧ n1 ≤ 3) (tn1 : Nat) (tn1a : 0 ≤ tn1) (tn1b : tn1 ≤ 3) (tn1e : n1 = nI tn1) (j1 : Nat) (w1 : Int32) (w2 : Int32) (k28 : Nat) (hj28 : j1 ≤ ms) (hk28 : ms < j1 + (k28 + 1)) (c_8 : ¬ nI ms ≤ nI j1) (n_35 : j1 < ms) (r_39 : Int32) (c_40 : ¬ r_39 = 1) (x_41 : Int32) (ex_41 : x_41 = w1 + 0) (r_44 : Int32) (c_45 : ¬ r_44 = 0) : j1 < 24 := by
  first | assumption | omega | decide | rfl
theorem lf_X12_oars_48 (h : Nat) (q : Nat → Nat) (im : Nat → Int32) (ms : Nat) (m_tholes : Nat → Int32) (n1 : Int32) (hf_ms : im 2 = nI ms) (hms : ms ≤ 24) (c_1 : ¬ nI ms = 0) (n_4 : ms ≠ 0) (c_7 : (0 : Int32) ≤ n1 ∧ n1 ≤ 3) (tn1 : Nat) (tn1a : 0 ≤ tn1) (tn1b : tn1 ≤ 3) (tn1e : n1 = nI tn1) (j1 : Nat) (w1 : Int32) (w2 : Int32) (k28 : Nat) (hj28 : j1 ≤ ms) (hk28 : ms < j1 + (k28 + 1)) (c_8 : ¬ nI ms ≤ nI j1) (n_35 : j1 < ms) (r_39 : Int32) (c_40 : ¬ r_39 = 1) (x_41 : Int32) (ex_41 : x_41 = w1 + 0) (r_44 : Int32) (c_45 : ¬ r_44 = 0) : 1 < 2 := by
  first | assumption | omega | decide | rfl
theorem lf_X12_oars_53 (h : Nat) (q : Nat → Nat) (im : Nat → Int32) (ms : Nat) (m_tholes : Nat → Int32) (n1 : Int32) (hf_ms : im 2 = nI ms) (hms : ms ≤ 24) (c_1 : ¬ nI ms = 0) (n_4 : ms ≠ 0) (c_7 : (0 : Int32) ≤ n1 ∧ n1 ≤ 3) (tn1 : Nat) (tn1a : 0 ≤ tn1) (tn1b : tn1 ≤ 3) (tn1e : n1 = nI tn1) (j1 : Nat) (w1 : Int32) (w2 : Int32) (k28 : Nat) (hj28 : j1 ≤ ms) (hk28 : ms < j1 + (k28 + 1)) (c_8 : ¬ nI ms ≤ nI j1) (n_35 : j1 < ms) (r_39 : Int32) (c_40 : r_39 = 1) : j1 < 24 := by
  first | assumption | omega | decide | rfl
theorem lf_X12_oars_54 (h : Nat) (q : Nat → Nat) (im : Nat → Int32) (ms : Nat) (m_tholes : Nat → Int32) (n1 : Int32) (hf_ms : im 2 = nI ms) (hms : ms ≤ 24) (c_1 : ¬ nI ms = 0) (n_4 : ms ≠ 0) (c_7 : (0 : Int32) ≤ n1 ∧ n1 ≤ 3) (tn1 : Nat) (tn1a : 0 ≤ tn1) (tn1b : tn1 ≤ 3) (tn1e : n1 = nI tn1) (j1 : Nat) (w1 : Int32) (w2 : Int32) (k28 : Nat) (hj28 : j1 ≤ ms) (hk28 : ms < j1 + (k28 + 1)) (c_8 : ¬ nI ms ≤ nI j1) (n_35 : j1 < ms) (r_39 : Int32) (c_40 : r_39 = 1) : 1 < 2 := by
  first | assumption | omega | decide | rfl
theorem lf_X12_oars_58 (h : Nat) (q : Nat → Nat) (im : Nat → Int32) (ms : Nat) (m_tholes : Nat → Int32) (n1 : Int32) (hf_ms : im 2 = nI ms) (hms : ms ≤ 24) (c_1 : ¬ nI ms = 0) (n_4 : ms ≠ 0) (c_7 : (0 : Int32) ≤ n1 ∧ n1 ≤ 3) (tn1 : Nat) (tn1a : 0 ≤ tn1) (tn1b : tn1 ≤ 3) (tn1e : n1 = nI tn1) (j1 : Nat) (w1 : Int32) (w2 : Int32) (k28 : Nat) (hj28 : j1 ≤ ms) (hk28 : ms < j1 + (k28 + 1)) (c_8 : ¬ nI ms ≤ nI j1) (n_35 : j1 < ms) (r_39 : Int32) (c_40 : r_39 = 1) (r_55 : Int32) (c_56 : ¬ r_55 = 1) (x_57 : Int32) (ex_57 : x_57 = w1 + 0) : j1 < 24 := by
  first | assumption | omega | decide | rfl
theorem lf_X12_oars_59 (h : Nat) (q : Nat → Nat) (im : Nat → Int32) (ms : Nat) (m_tholes : Nat → Int32) (n1 : Int32) (hf_ms : im 2 = nI ms) (hms : ms ≤ 24) (c_1 : ¬ nI ms = 0) (n_4 : ms ≠ 0) (c_7 : (0 : Int32) ≤ n1 ∧ n1 ≤ 3) (tn1 : Nat) (tn1a : 0 ≤ tn1) (tn1b : tn1 ≤ 3) (tn1e : n1 = nI tn1) (j1 : Nat) (w1 : Int32) (w2 : Int32) (k28 : Nat) (hj28 : j1 ≤ ms) (hk28 : ms < j1 + (k28 + 1)) (c_8 : ¬ nI ms ≤ nI j1) (n_35 : j1 < ms) (r_39 : Int32) (c_40 : r_39 = 1) (r_55 : Int32) (c_56 : ¬ r_55 = 1) (x_57 : Int32) (ex_57 : x_57 = w1 + 0) : 0 < 2 := by
  first | assumption | omega | decide | rfl
theorem lf_X12_oars_63 (h : Nat) (q : Nat → Nat) (im : Nat → Int32) (ms : Nat) (m_tholes : Nat → Int32) (n1 : Int32) (hf_ms : im 2 = nI ms) (hms : ms ≤ 24) (c_1 : ¬ nI ms = 0) (n_4 : ms ≠ 0) (c_7 : (0 : Int32) ≤ n1 ∧ n1 ≤ 3) (tn1 : Nat) (tn1a : 0 ≤ tn1) (tn1b : tn1 ≤ 3) (tn1e : n1 = nI tn1) (j1 : Nat) (w1 : Int32) (w2 : Int32) (k28 : Nat) (hj28 : j1 ≤ ms) (hk28 : ms < j1 + (k28 + 1)) (c_8 : ¬ nI ms ≤ nI j1) (n_35 : j1 < ms) (r_39 : Int32) (c_40 : r_39 = 1) (r_55 : Int32) (c_56 : ¬ r_55 = 1) (x_57 : Int32) (ex_57 : x_57 = w1 + 0) (r_60 : Int32) (c_61 : ¬ r_60 = 0) : j1 < 24 := by
  first | assumption | omega | decide | rfl
theorem lf_X12_oars_64 (h : Nat) (q : Nat → Nat) (im : Nat → Int32) (ms : Nat) (m_tholes : Nat → Int32) (n1 : Int32) (hf_ms : im 2 = nI ms) (hms : ms ≤ 24) (c_1 : ¬ nI ms = 0) (n_4 : ms ≠ 0) (c_7 : (0 : Int32) ≤ n1 ∧ n1 ≤ 3) (tn1 : Nat) (tn1a : 0 ≤ tn1) (tn1b : tn1 ≤ 3) (tn1e : n1 = nI tn1) (j1 : Nat) (w1 : Int32) (w2 : Int32) (k28 : Nat) (hj28 : j1 ≤ ms) (hk28 : ms < j1 + (k28 + 1)) (c_8 : ¬ nI ms ≤ nI j1) (n_35 : j1 < ms) (r_39 : Int32) (c_40 : r_39 = 1) (r_55 : Int32) (c_56 : ¬ r_55 = 1) (x_57 : Int32) (ex_57 : x_57 = w1 + 0) (r_60 : Int32) (c_61 : ¬ r_60 = 0) : 1 < 2 := by
  first | assumption | omega | decide | rfl
theorem lf_X12_oars_70 (h : Nat) (q : Nat → Nat) (im : Nat → Int32) (ms : Nat) (m_tholes : Nat → Int32) (n1 : Int32) (hf_ms : im 2 = nI ms) (hms : ms ≤ 24) (c_1 : ¬ nI ms = 0) (n_4 : ms ≠ 0) (c_7 : (0 : Int32) ≤ n1 ∧ n1 ≤ 3) (tn1 : Nat) (tn1a : 0 ≤ tn1) (tn1b : tn1 ≤ 3) (tn1e : n1 = nI tn1) (j1 : Nat) (w1 : Int32) (w2 : Int32) (k28 : Nat) (hj28 : j1 ≤ ms) (hk28 : ms < j1 + (k28 + 1)) (c_8 : ¬ nI ms ≤ nI j1) (n_35 : j1 < ms) (r_39 : Int32) (c_40 : r_39 = 1) (r_55 : Int32) (c_56 : r_55 = 1) (x_69 : Int32) (ex_69 : x_69 = w1 + 1) : j1 < 24 := by
  first | assumption | omega | decide | rfl
theorem lf_X12_oars_71 (h : Nat) (q : Nat → Nat) (im : Nat → Int32) (ms : Nat) (m_tholes : Nat → Int32) (n1 : Int32) (hf_ms : im 2 = nI ms) (hms : ms ≤ 24) (c_1 : ¬ nI ms = 0) (n_4 : ms ≠ 0) (c_7 : (0 : Int32) ≤ n1 ∧ n1 ≤ 3) (tn1 : Nat) (tn1a : 0 ≤ tn1) (tn1b : tn1 ≤ 3) (tn1e : n1 = nI tn1) (j1 : Nat) (w1 : Int32) (w2 : Int32) (k28 : Nat) (hj28 : j1 ≤ ms) (hk28 : ms < j1 + (k28 + 1)) (c_8 : ¬ nI ms ≤ nI j1) (n_35 : j1 < ms) (r_39 : Int32) (c_40 : r_39 = 1) (r_55 : Int32) (c_56 : r_55 = 1) (x_69 : Int32) (ex_69 : x_69 = w1 + 1) : 0 < 2 := by
  first | assumption | omega | decide | rfl
theorem lf_X12_oars_75 (h : Nat) (q : Nat → Nat) (im : Nat → Int32) (ms : Nat) (m_tholes : Nat → Int32) (n1 : Int32) (hf_ms : im 2 = nI ms) (hms : ms ≤ 24) (c_1 : ¬ nI ms = 0) (n_4 : ms ≠ 0) (c_7 : (0 : Int32) ≤ n1 ∧ n1 ≤ 3) (tn1 : Nat) (tn1a : 0 ≤ tn1) (tn1b : tn1 ≤ 3) (tn1e : n1 = nI tn1) (j1 : Nat) (w1 : Int32) (w2 : Int32) (k28 : Nat) (hj28 : j1 ≤ ms) (hk28 : ms < j1 + (k28 + 1)) (c_8 : ¬ nI ms ≤ nI j1) (n_35 : j1 < ms) (r_39 : Int32) (c_40 : r_39 = 1) (r_55 : Int32) (c_56 : r_55 = 1) (x_69 : Int32) (ex_69 : x_69 = w1 + 1) (r_72 : Int32) (c_73 : ¬ r_72 = 0) : j1 < 24 := by
  first | assumption | omega | decide | rfl
theorem lf_X12_oars_76 (h : Nat) (q : Nat → Nat) (im : Nat → Int32) (ms : Nat) (m_tholes : Nat → Int32) (n1 : Int32) (hf_ms : im 2 = nI ms) (hms : ms ≤ 24) (c_1 : ¬ nI ms = 0) (n_4 : ms ≠ 0) (c_7 : (0 : Int32) ≤ n1 ∧ n1 ≤ 3) (tn1 : Nat) (tn1a : 0 ≤ tn1) (tn1b : tn1 ≤ 3) (tn1e : n1 = nI tn1) (j1 : Nat) (w1 : Int32) (w2 : Int32) (k28 : Nat) (hj28 : j1 ≤ ms) (hk28 : ms < j1 + (k28 + 1)) (c_8 : ¬ nI ms ≤ nI j1) (n_35 : j1 < ms) (r_39 : Int32) (c_40 : r_39 = 1) (r_55 : Int32) (c_56 : r_55 = 1) (x_69 : Int32) (ex_69 : x_69 = w1 + 1) (r_72 : Int32) (c_73 : ¬ r_72 = 0) : 1 < 2 := by
  first | assumption | omega | decide | rfl
set_option maxHeartbeats 4000000 in
set_option maxRecDepth 100000 in
theorem c_X12_oars (l : Launch) (D : va_G) (cI cB cZ cJ : ClassId) (tx : List (ClassId × FieldType)) (h : Nat) (q : Nat → Nat) (im : Nat → Int32) (ms : Nat) (m_tholes : Nat → Int32) (n1 : Int32) (hf_ms : im 2 = nI ms) (hms : ms ≤ 24) : RdI l D cI cB cZ cJ tx yX12_oars cX12_oars 5 (some .int) 3 [.ref h, .int n1] [(h, .inr (12, mG q im)), (q 73, .inl (cI, 48, .inl m_tholes))] (fun r => True) := by
  refine rdi_of2 (by decide) (Nat.le_of_ble_eq_true rfl) ?_
  intro p e s m below meth c A ls H locs hC hK hP hD hA hS hl
  obtain ⟨hx, hb, hr, hml, hown, hts, hlocks, hin⟩ := hC
  have hown : s.vm.findClass RX12 = some m.cls := hown
  have hl : lv_has ls 5 [(0, .ref h), (1, .int n1)] := hl
  refine lv_aload_n hx hb dX12_oars_0 rfl (lv_at hl 0 rfl) ?_
  refine va_get (D := D) (ci := 12) (v := .int (im 2)) (C := RX12) (T := TX12) (N := 81) hx hb hts inT_X12 hown hK.1 hP 0 rfl rfl 2 (by decide) (hts _ k_1355) (fun _ h9 => h9) rfl dX12_oars_1 ?_
  refine lv_topv (y := nI ms) hf_ms ?_
  refine lv_if_eq (tgt := 19) hx hb dX12_oars_4 (by decide) (fun c_1 => ?_) (fun c_1 => ?_)
  · have n_2 : ms = 0 := (lf_X12_oars_3 h q im ms m_tholes n1 hf_ms hms c_1)
    refine lv_iconst (v := (-1)) hx hb dX12_oars_19 (by decide) ?_
    exact W.iret (v := (-1)) hx hb hr (fun tt9 ht hW => ⟨⟨((-1) : Int32), (), rfl, trivial, trivial⟩, hS.F ht⟩) hS.2.2 dX12_oars_20 hlocks
  · have n_4 : ms ≠ 0 := (lf_X12_oars_5 h q im ms m_tholes n1 hf_ms hms c_1)
    refine lv_iload_n hx hb dX12_oars_7 rfl (lv_at hl 1 rfl) ?_
    refine lv_i2l (v := n1.toInt64) hx hb dX12_oars_8 rfl ?_
    refine lv_lconst (v := 0) hx hb dX12_oars_9 (by decide) ?_
    refine lv_ldc2 (v := 3) hx hb hown (hts _ k_1732) dX12_oars_10 ?_
    refine eRi (va_runS (As := [.long n1.toInt64, .long 0, .long 3]) (rest := []) ⟨hx, hb, hml, hown, hts⟩ (c_X12_isIn l D cI cB cZ cJ tx n1.toInt64 0 3 H.size) (zS hts k_1602 v_X12_isIn ⟨Nat.le_of_ble_eq_true rfl, Nat.le_of_ble_eq_true rfl⟩) (px0 hK) rfl rfl hl.1 rfl (lv_room (Nat.le_of_ble_eq_true rfl)) dX12_oars_13 ⟨Nat.le_of_ble_eq_true rfl, Nat.le_of_ble_eq_true rfl⟩) hP hS hA (fun r_6 H locs wr_6 hP hS => ?_)
    have wr_6 : r_6 = bi ((0 : Int32) ≤ n1 ∧ n1 ≤ 3) := isIn32 (lo := 0) (hi := 3) (by decide) (by decide) wr_6
    subst wr_6
    refine lv_bi_ne (tgt := 21) hx hb dX12_oars_16 (by decide) (fun c_7 => ?_) (fun c_7 => ?_)
    · obtain ⟨tn1, tn1a, tn1b, tn1e⟩ := of_rng 0 3 rfl rfl c_7
      subst tn1e
      refine lv_iconst (v := 0) hx hb dX12_oars_21 (by decide) ?_
      refine lv_istore_n (lv' := [(2, .int 0), (0, .ref h), (1, .int (nI tn1))]) hx hb dX12_oars_22 rfl hl (by decide) rfl (fun ls hl => ?_)
      refine lv_iconst (v := 0) hx hb dX12_oars_23 (by decide) ?_
      refine lv_istore_n (lv' := [(3, .int 0), (2, .int 0), (0, .ref h), (1, .int (nI tn1))]) hx hb dX12_oars_24 rfl hl (by decide) rfl (fun ls hl => ?_)
      refine lv_iconst (v := 0) hx hb dX12_oars_25 (by decide) ?_
      refine lv_istore (lv' := [(4, .int 0), (3, .int 0), (2, .int 0), (0, .ref h), (1, .int (nI tn1))]) hx hb dX12_oars_26 hl (by decide) rfl (fun ls hl => ?_)
      have lp28 : ∀ (k28 : Nat) (j1 : Nat) (w1 : Int32) (w2 : Int32) (H : Heap) (locs : List Loc) (ls : Array Slot), j1 ≤ ms → ms < j1 + k28 → va_P D vwCl [(h, .inr (12, mG q im)), (q 73, .inl (cI, 48, .inl m_tholes))] H → va_S A s.heap H locs → lv_has ls 5 [(4, .int (nI j1)), (3, .int w2), (2, .int w1), (0, .ref h), (1, .int (nI tn1))] → W p l e (rmX 3 0 0) s m ([.ref h, .int (nI tn1)] : List Value).toArray below meth c H locs 0 0 (MQ below (va_Qi (fun r (_ : Unit) => (fun r => True) r) (fun _ _ => True) A) ([.ref h, .int (nI tn1)] : List Value).toArray s 0 0 A) (F0 m 28 ls []) := by
        intro k28
        induction k28 with
        | zero =>
          intro j1 w1 w2 H locs ls hj28 hk28  hP hS hl
          exact absurd hk28 (by omega)
        | succ k28 ih28 =>
          intro j1 w1 w2 H locs ls hj28 hk28  hP hS hl
          refine lv_iload hx hb dX12_oars_28 (lv_at hl 0 rfl) ?_
          refine lv_aload_n hx hb dX12_oars_30 rfl (lv_at hl 3 rfl) ?_
          refine va_get (D := D) (ci := 12) (v := .int (im 2)) (C := RX12) (T := TX12) (N := 81) hx hb hts inT_X12 hown hK.1 hP 0 rfl rfl 2 (by decide) (hts _ k_1355) (fun _ h9 => h9) rfl dX12_oars_31 ?_
          refine lv_topv (y := nI ms) hf_ms ?_
          refine lv_icmp_ge (tgt := 101) hx hb dX12_oars_34 (by decide) (fun c_8 => ?_) (fun c_8 => ?_)
          · have n_9 : ms ≤ j1 := (lf_X12_oars_10 h q im ms m_tholes (nI tn1) hf_ms hms c_1 n_4 c_7 tn1 tn1a tn1b rfl j1 w1 w2 k28 hj28 hk28 c_8)
            refine lv_iload_n hx hb dX12_oars_101 rfl (lv_at hl 4 rfl) ?_
            refine lv_if_ne (tgt := 109) hx hb dX12_oars_102 (by decide) (fun c_11 => ?_) (fun c_11 => ?_)
            · have n_12 : tn1 ≠ 0 := (lf_X12_oars_13 h q im ms m_tholes (nI tn1) hf_ms hms c_1 n_4 c_7 tn1 tn1a tn1b rfl j1 w1 w2 k28 hj28 hk28 c_8 n_9 c_11)
              refine lv_iload_n hx hb dX12_oars_109 rfl (lv_at hl 4 rfl) ?_
              refine lv_iconst (v := 1) hx hb dX12_oars_110 (by decide) ?_
              refine lv_icmp_ne (tgt := 118) hx hb dX12_oars_111 (by decide) (fun c_14 => ?_) (fun c_14 => ?_)
              · have n_15 : tn1 ≠ 1 := (lf_X12_oars_16 h q im ms m_tholes (nI tn1) hf_ms hms c_1 n_4 c_7 tn1 tn1a tn1b rfl j1 w1 w2 k28 hj28 hk28 c_8 n_9 c_11 n_12 c_14)
                refine lv_iload_n hx hb dX12_oars_118 rfl (lv_at hl 4 rfl) ?_
                refine lv_iconst (v := 2) hx hb dX12_oars_119 (by decide) ?_
                refine lv_icmp_ne (tgt := 137) hx hb dX12_oars_120 (by decide) (fun c_17 => ?_) (fun c_17 => ?_)
                · have n_18 : tn1 ≠ 2 := (lf_X12_oars_19 h q im ms m_tholes (nI tn1) hf_ms hms c_1 n_4 c_7 tn1 tn1a tn1b rfl j1 w1 w2 k28 hj28 hk28 c_8 n_9 c_11 n_12 c_14 n_15 c_17)
                  refine lv_aload_n hx hb dX12_oars_137 rfl (lv_at hl 3 rfl) ?_
                  refine lv_iconst (v := 1) hx hb dX12_oars_138 (by decide) ?_
                  refine eRi (va_runV (As := [.int 1]) (rest := []) ⟨hx, hb, hml, hown, hts⟩ (c_X12_tholesThat l D cI cB cZ cJ tx h q im ms m_tholes 1 hf_ms (lf_X12_oars_20 h q im ms m_tholes (nI tn1) hf_ms hms c_1 n_4 c_7 tn1 tn1a tn1b rfl j1 w1 w2 k28 hj28 hk28 c_8 n_9 c_11 n_12 c_14 n_15 c_17 n_18) H.size) (zV hts k_1996 v_X12_tholesThat ⟨Nat.le_of_ble_eq_true rfl, Nat.le_of_ble_eq_true rfl⟩) (pV (pxS hK hP hD [0, 1] (by decide) rfl) hK hP 0 rfl rfl) rfl rfl hl.1 rfl (lv_room (Nat.le_of_ble_eq_true rfl)) dX12_oars_139 ⟨Nat.le_of_ble_eq_true rfl, Nat.le_of_ble_eq_true rfl⟩) hP hS hA (fun r_21 H locs wr_21 hP hS => ?_)
                  rcases wr_21 with ⟨mm_22, hmm_22, rfl⟩
                  · exact W.iret (v := nI mm_22) hx hb hr (fun tt9 ht hW => ⟨⟨(nI mm_22 : Int32), (), rfl, trivial, trivial⟩, hS.F ht⟩) hS.2.2 dX12_oars_142 hlocks
                · have n_23 : tn1 = 2 := (lf_X12_oars_24 h q im ms m_tholes (nI tn1) hf_ms hms c_1 n_4 c_7 tn1 tn1a tn1b rfl j1 w1 w2 k28 hj28 hk28 c_8 n_9 c_11 n_12 c_14 n_15 c_17)
                  refine lv_aload_n hx hb dX12_oars_123 rfl (lv_at hl 3 rfl) ?_
                  refine lv_iconst (v := 0) hx hb dX12_oars_124 (by decide) ?_
                  refine eRi (va_runV (As := [.int 0]) (rest := []) ⟨hx, hb, hml, hown, hts⟩ (c_X12_tholesThat l D cI cB cZ cJ tx h q im ms m_tholes 0 hf_ms (lf_X12_oars_25 h q im ms m_tholes (nI tn1) hf_ms hms c_1 n_4 c_7 tn1 tn1a tn1b rfl j1 w1 w2 k28 hj28 hk28 c_8 n_9 c_11 n_12 c_14 n_15 c_17 n_23) H.size) (zV hts k_1996 v_X12_tholesThat ⟨Nat.le_of_ble_eq_true rfl, Nat.le_of_ble_eq_true rfl⟩) (pV (pxS hK hP hD [0, 1] (by decide) rfl) hK hP 0 rfl rfl) rfl rfl hl.1 rfl (lv_room (Nat.le_of_ble_eq_true rfl)) dX12_oars_125 ⟨Nat.le_of_ble_eq_true rfl, Nat.le_of_ble_eq_true rfl⟩) hP hS hA (fun r_26 H locs wr_26 hP hS => ?_)
                  rcases wr_26 with ⟨mm_27, hmm_27, rfl⟩
                  · refine lv_aload_n hx hb dX12_oars_128 rfl (lv_at hl 3 rfl) ?_
                    refine lv_iconst (v := 1) hx hb dX12_oars_129 (by decide) ?_
                    refine eRi (va_runV (As := [.int 1]) (rest := [.int (nI mm_27)]) ⟨hx, hb, hml, hown, hts⟩ (c_X12_tholesThat l D cI cB cZ cJ tx h q im ms m_tholes 1 hf_ms (lf_X12_oars_28 h q im ms m_tholes (nI tn1) hf_ms hms c_1 n_4 c_7 tn1 tn1a tn1b rfl j1 w1 w2 k28 hj28 hk28 c_8 n_9 c_11 n_12 c_14 n_15 c_17 n_23 mm_27 hmm_27) H.size) (zV hts k_1996 v_X12_tholesThat ⟨Nat.le_of_ble_eq_true rfl, Nat.le_of_ble_eq_true rfl⟩) (pV (pxS hK hP hD [0, 1] (by decide) rfl) hK hP 0 rfl rfl) rfl rfl hl.1 rfl (lv_room (Nat.le_of_ble_eq_true rfl)) dX12_oars_130 ⟨Nat.le_of_ble_eq_true rfl, Nat.le_of_ble_eq_true rfl⟩) hP hS hA (fun r_29 H locs wr_29 hP hS => ?_)
                    rcases wr_29 with ⟨mm_30, hmm_30, rfl⟩
                    · refine lv_iadd hx hb dX12_oars_133 ?_
                      refine lv_topv (y := nI (mm_27 + mm_30)) (nI_add mm_27 mm_30) ?_
                      refine lv_goto (tgt := 142) hx hb dX12_oars_134 (by decide) ?_
                      exact W.iret (v := nI (mm_27 + mm_30)) hx hb hr (fun tt9 ht hW => ⟨⟨(nI (mm_27 + mm_30) : Int32), (), rfl, trivial, trivial⟩, hS.F ht⟩) hS.2.2 dX12_oars_142 hlocks
              · have n_31 : tn1 = 1 := (lf_X12_oars_32 h q im ms m_tholes (nI tn1) hf_ms hms c_1 n_4 c_7 tn1 tn1a tn1b rfl j1 w1 w2 k28 hj28 hk28 c_8 n_9 c_11 n_12 c_14)
                refine lv_iload_n hx hb dX12_oars_114 rfl (lv_at hl 1 rfl) ?_
                refine lv_goto (tgt := 142) hx hb dX12_oars_115 (by decide) ?_
                exact W.iret (v := w2) hx hb hr (fun tt9 ht hW => ⟨⟨(w2 : Int32), (), rfl, trivial, trivial⟩, hS.F ht⟩) hS.2.2 dX12_oars_142 hlocks
            · have n_33 : tn1 = 0 := (lf_X12_oars_34 h q im ms m_tholes (nI tn1) hf_ms hms c_1 n_4 c_7 tn1 tn1a tn1b rfl j1 w1 w2 k28 hj28 hk28 c_8 n_9 c_11)
              refine lv_iload_n hx hb dX12_oars_105 rfl (lv_at hl 2 rfl) ?_
              refine lv_goto (tgt := 142) hx hb dX12_oars_106 (by decide) ?_
              exact W.iret (v := w1) hx hb hr (fun tt9 ht hW => ⟨⟨(w1 : Int32), (), rfl, trivial, trivial⟩, hS.F ht⟩) hS.2.2 dX12_oars_142 hlocks
          · have n_35 : j1 < ms := (lf_X12_oars_36 h q im ms m_tholes (nI tn1) hf_ms hms c_1 n_4 c_7 tn1 tn1a tn1b rfl j1 w1 w2 k28 hj28 hk28 c_8)
            refine lv_iload_n hx hb dX12_oars_37 rfl (lv_at hl 2 rfl) ?_
            refine lv_aload_n hx hb dX12_oars_38 rfl (lv_at hl 3 rfl) ?_
            refine lv_iload hx hb dX12_oars_39 (lv_at hl 0 rfl) ?_
            refine lv_iconst (v := 0) hx hb dX12_oars_41 (by decide) ?_
            refine eRi (va_runV (As := [.int (nI j1), .int 0]) (rest := [.int w1]) ⟨hx, hb, hml, hown, hts⟩ (c_X12_tholeOf l D cI cB cZ cJ tx h q im m_tholes j1 0 (lf_X12_oars_37 h q im ms m_tholes (nI tn1) hf_ms hms c_1 n_4 c_7 tn1 tn1a tn1b rfl j1 w1 w2 k28 hj28 hk28 c_8 n_35) (lf_X12_oars_38 h q im ms m_tholes (nI tn1) hf_ms hms c_1 n_4 c_7 tn1 tn1a tn1b rfl j1 w1 w2 k28 hj28 hk28 c_8 n_35) H.size) (zV hts k_1992 v_X12_tholeOf ⟨Nat.le_of_ble_eq_true rfl, Nat.le_of_ble_eq_true rfl⟩) (pV (pxS hK hP hD [0, 1] (by decide) rfl) hK hP 0 rfl rfl) rfl rfl hl.1 rfl (lv_room (Nat.le_of_ble_eq_true rfl)) dX12_oars_42 ⟨Nat.le_of_ble_eq_true rfl, Nat.le_of_ble_eq_true rfl⟩) hP hS hA (fun r_39 H locs wr_39 hP hS => ?_)
            refine lv_iconst (v := 1) hx hb dX12_oars_45 (by decide) ?_
            refine lv_icmp_ne (tgt := 64) hx hb dX12_oars_46 (by decide) (fun c_40 => ?_) (fun c_40 => ?_)
            · refine lv_iconst (v := 0) hx hb dX12_oars_64 (by decide) ?_
              refine lv_iadd hx hb dX12_oars_65 ?_
              refine lv_topi (fun x_41 ex_41 => ?_)
              refine lv_istore_n (lv' := [(2, .int x_41), (4, .int (nI j1)), (3, .int w2), (0, .ref h), (1, .int (nI tn1))]) hx hb dX12_oars_66 rfl hl (by decide) rfl (fun ls hl => ?_)
              refine lv_iload_n hx hb dX12_oars_67 rfl (lv_at hl 2 rfl) ?_
              refine lv_aload_n hx hb dX12_oars_68 rfl (lv_at hl 3 rfl) ?_
              refine lv_iload hx hb dX12_oars_69 (lv_at hl 1 rfl) ?_
              refine lv_iconst (v := 0) hx hb dX12_oars_71 (by decide) ?_
              refine eRi (va_runV (As := [.int (nI j1), .int 0]) (rest := [.int w2]) ⟨hx, hb, hml, hown, hts⟩ (c_X12_tholeOf l D cI cB cZ cJ tx h q im m_tholes j1 0 (lf_X12_oars_42 h q im ms m_tholes (nI tn1) hf_ms hms c_1 n_4 c_7 tn1 tn1a tn1b rfl j1 w1 w2 k28 hj28 hk28 c_8 n_35 r_39 c_40 x_41 ex_41) (lf_X12_oars_43 h q im ms m_tholes (nI tn1) hf_ms hms c_1 n_4 c_7 tn1 tn1a tn1b rfl j1 w1 w2 k28 hj28 hk28 c_8 n_35 r_39 c_40 x_41 ex_41) H.size) (zV hts k_1992 v_X12_tholeOf ⟨Nat.le_of_ble_eq_true rfl, Nat.le_of_ble_eq_true rfl⟩) (pV (pxS hK hP hD [0, 1] (by decide) rfl) hK hP 0 rfl rfl) rfl rfl hl.1 rfl (lv_room (Nat.le_of_ble_eq_true rfl)) dX12_oars_72 ⟨Nat.le_of_ble_eq_true rfl, Nat.le_of_ble_eq_true rfl⟩) hP hS hA (fun r_44 H locs wr_44 hP hS => ?_)
              refine lv_if_eq (tgt := 92) hx hb dX12_oars_75 (by decide) (fun c_45 => ?_) (fun c_45 => ?_)
              · refine lv_iconst (v := 0) hx hb dX12_oars_92 (by decide) ?_
                refine lv_iadd hx hb dX12_oars_93 ?_
                refine lv_topi (fun x_46 ex_46 => ?_)
                refine lv_istore_n (lv' := [(3, .int x_46), (2, .int x_41), (4, .int (nI j1)), (0, .ref h), (1, .int (nI tn1))]) hx hb dX12_oars_94 rfl hl (by decide) rfl (fun ls hl => ?_)
                refine lv_iinc (v := nI (j1 + 1)) (lv' := [(4, .int (nI (j1 + 1))), (3, .int x_46), (2, .int x_41), (0, .ref h), (1, .int (nI tn1))]) hx hb dX12_oars_95 hl (k := 2) rfl (nI_1 j1) (by decide) rfl (fun ls hl => ?_)
                refine lv_goto (tgt := 28) hx hb dX12_oars_98 (by decide) ?_
                exact ih28 (j1 + 1) x_41 x_46 H locs ls (by omega) (by omega)  (hP.sub [0, 1] rfl)  hS (lv_sub hl [0, 1, 2, 3, 4] rfl)
              · refine lv_aload_n hx hb dX12_oars_78 rfl (lv_at hl 3 rfl) ?_
                refine lv_iload hx hb dX12_oars_79 (lv_at hl 1 rfl) ?_
                refine lv_iconst (v := 1) hx hb dX12_oars_81 (by decide) ?_
                refine eRi (va_runV (As := [.int (nI j1), .int 1]) (rest := [.int w2]) ⟨hx, hb, hml, hown, hts⟩ (c_X12_tholeOf l D cI cB cZ cJ tx h q im m_tholes j1 1 (lf_X12_oars_47 h q im ms m_tholes (nI tn1) hf_ms hms c_1 n_4 c_7 tn1 tn1a tn1b rfl j1 w1 w2 k28 hj28 hk28 c_8 n_35 r_39 c_40 x_41 ex_41 r_44 c_45) (lf_X12_oars_48 h q im ms m_tholes (nI tn1) hf_ms hms c_1 n_4 c_7 tn1 tn1a tn1b rfl j1 w1 w2 k28 hj28 hk28 c_8 n_35 r_39 c_40 x_41 ex_41 r_44 c_45) H.size) (zV hts k_1992 v_X12_tholeOf ⟨Nat.le_of_ble_eq_true rfl, Nat.le_of_ble_eq_true rfl⟩) (pV (pxS hK hP hD [0, 1] (by decide) rfl) hK hP 0 rfl rfl) rfl rfl hl.1 rfl (lv_room (Nat.le_of_ble_eq_true rfl)) dX12_oars_82 ⟨Nat.le_of_ble_eq_true rfl, Nat.le_of_ble_eq_true rfl⟩) hP hS hA (fun r_49 H locs wr_49 hP hS => ?_)
                refine lv_if_eq (tgt := 92) hx hb dX12_oars_85 (by decide) (fun c_50 => ?_) (fun c_50 => ?_)
                · refine lv_iconst (v := 0) hx hb dX12_oars_92 (by decide) ?_
                  refine lv_iadd hx hb dX12_oars_93 ?_
                  refine lv_topi (fun x_51 ex_51 => ?_)
                  refine lv_istore_n (lv' := [(3, .int x_51), (2, .int x_41), (4, .int (nI j1)), (0, .ref h), (1, .int (nI tn1))]) hx hb dX12_oars_94 rfl hl (by decide) rfl (fun ls hl => ?_)
                  refine lv_iinc (v := nI (j1 + 1)) (lv' := [(4, .int (nI (j1 + 1))), (3, .int x_51), (2, .int x_41), (0, .ref h), (1, .int (nI tn1))]) hx hb dX12_oars_95 hl (k := 2) rfl (nI_1 j1) (by decide) rfl (fun ls hl => ?_)
                  refine lv_goto (tgt := 28) hx hb dX12_oars_98 (by decide) ?_
                  exact ih28 (j1 + 1) x_41 x_51 H locs ls (by omega) (by omega)  (hP.sub [0, 1] rfl)  hS (lv_sub hl [0, 1, 2, 3, 4] rfl)
                · refine lv_iconst (v := 1) hx hb dX12_oars_88 (by decide) ?_
                  refine lv_goto (tgt := 93) hx hb dX12_oars_89 (by decide) ?_
                  refine lv_iadd hx hb dX12_oars_93 ?_
                  refine lv_topi (fun x_52 ex_52 => ?_)
                  refine lv_istore_n (lv' := [(3, .int x_52), (2, .int x_41), (4, .int (nI j1)), (0, .ref h), (1, .int (nI tn1))]) hx hb dX12_oars_94 rfl hl (by decide) rfl (fun ls hl => ?_)
                  refine lv_iinc (v := nI (j1 + 1)) (lv' := [(4, .int (nI (j1 + 1))), (3, .int x_52), (2, .int x_41), (0, .ref h), (1, .int (nI tn1))]) hx hb dX12_oars_95 hl (k := 2) rfl (nI_1 j1) (by decide) rfl (fun ls hl => ?_)
                  refine lv_goto (tgt := 28) hx hb dX12_oars_98 (by decide) ?_
                  exact ih28 (j1 + 1) x_41 x_52 H locs ls (by omega) (by omega)  (hP.sub [0, 1] rfl)  hS (lv_sub hl [0, 1, 2, 3, 4] rfl)
            · refine lv_aload_n hx hb dX12_oars_49 rfl (lv_at hl 3 rfl) ?_
              refine lv_iload hx hb dX12_oars_50 (lv_at hl 0 rfl) ?_
              refine lv_iconst (v := 1) hx hb dX12_oars_52 (by decide) ?_
              refine eRi (va_runV (As := [.int (nI j1), .int 1]) (rest := [.int w1]) ⟨hx, hb, hml, hown, hts⟩ (c_X12_tholeOf l D cI cB cZ cJ tx h q im m_tholes j1 1 (lf_X12_oars_53 h q im ms m_tholes (nI tn1) hf_ms hms c_1 n_4 c_7 tn1 tn1a tn1b rfl j1 w1 w2 k28 hj28 hk28 c_8 n_35 r_39 c_40) (lf_X12_oars_54 h q im ms m_tholes (nI tn1) hf_ms hms c_1 n_4 c_7 tn1 tn1a tn1b rfl j1 w1 w2 k28 hj28 hk28 c_8 n_35 r_39 c_40) H.size) (zV hts k_1992 v_X12_tholeOf ⟨Nat.le_of_ble_eq_true rfl, Nat.le_of_ble_eq_true rfl⟩) (pV (pxS hK hP hD [0, 1] (by decide) rfl) hK hP 0 rfl rfl) rfl rfl hl.1 rfl (lv_room (Nat.le_of_ble_eq_true rfl)) dX12_oars_53 ⟨Nat.le_of_ble_eq_true rfl, Nat.le_of_ble_eq_true rfl⟩) hP hS hA (fun r_55 H locs wr_55 hP hS => ?_)
              refine lv_iconst (v := 1) hx hb dX12_oars_56 (by decide) ?_
              refine lv_icmp_ne (tgt := 64) hx hb dX12_oars_57 (by decide) (fun c_56 => ?_) (fun c_56 => ?_)
              · refine lv_iconst (v := 0) hx hb dX12_oars_64 (by decide) ?_
                refine lv_iadd hx hb dX12_oars_65 ?_
                refine lv_topi (fun x_57 ex_57 => ?_)
                refine lv_istore_n (lv' := [(2, .int x_57), (4, .int (nI j1)), (3, .int w2), (0, .ref h), (1, .int (nI tn1))]) hx hb dX12_oars_66 rfl hl (by decide) rfl (fun ls hl => ?_)
                refine lv_iload_n hx hb dX12_oars_67 rfl (lv_at hl 2 rfl) ?_
                refine lv_aload_n hx hb dX12_oars_68 rfl (lv_at hl 3 rfl) ?_
                refine lv_iload hx hb dX12_oars_69 (lv_at hl 1 rfl) ?_
                refine lv_iconst (v := 0) hx hb dX12_oars_71 (by decide) ?_
                refine eRi (va_runV (As := [.int (nI j1), .int 0]) (rest := [.int w2]) ⟨hx, hb, hml, hown, hts⟩ (c_X12_tholeOf l D cI cB cZ cJ tx h q im m_tholes j1 0 (lf_X12_oars_58 h q im ms m_tholes (nI tn1) hf_ms hms c_1 n_4 c_7 tn1 tn1a tn1b rfl j1 w1 w2 k28 hj28 hk28 c_8 n_35 r_39 c_40 r_55 c_56 x_57 ex_57) (lf_X12_oars_59 h q im ms m_tholes (nI tn1) hf_ms hms c_1 n_4 c_7 tn1 tn1a tn1b rfl j1 w1 w2 k28 hj28 hk28 c_8 n_35 r_39 c_40 r_55 c_56 x_57 ex_57) H.size) (zV hts k_1992 v_X12_tholeOf ⟨Nat.le_of_ble_eq_true rfl, Nat.le_of_ble_eq_true rfl⟩) (pV (pxS hK hP hD [0, 1] (by decide) rfl) hK hP 0 rfl rfl) rfl rfl hl.1 rfl (lv_room (Nat.le_of_ble_eq_true rfl)) dX12_oars_72 ⟨Nat.le_of_ble_eq_true rfl, Nat.le_of_ble_eq_true rfl⟩) hP hS hA (fun r_60 H locs wr_60 hP hS => ?_)
                refine lv_if_eq (tgt := 92) hx hb dX12_oars_75 (by decide) (fun c_61 => ?_) (fun c_61 => ?_)
                · refine lv_iconst (v := 0) hx hb dX12_oars_92 (by decide) ?_
                  refine lv_iadd hx hb dX12_oars_93 ?_
                  refine lv_topi (fun x_62 ex_62 => ?_)
                  refine lv_istore_n (lv' := [(3, .int x_62), (2, .int x_57), (4, .int (nI j1)), (0, .ref h), (1, .int (nI tn1))]) hx hb dX12_oars_94 rfl hl (by decide) rfl (fun ls hl => ?_)
                  refine lv_iinc (v := nI (j1 + 1)) (lv' := [(4, .int (nI (j1 + 1))), (3, .int x_62), (2, .int x_57), (0, .ref h), (1, .int (nI tn1))]) hx hb dX12_oars_95 hl (k := 2) rfl (nI_1 j1) (by decide) rfl (fun ls hl => ?_)
                  refine lv_goto (tgt := 28) hx hb dX12_oars_98 (by decide) ?_
                  exact ih28 (j1 + 1) x_57 x_62 H locs ls (by omega) (by omega)  (hP.sub [0, 1] rfl)  hS (lv_sub hl [0, 1, 2, 3, 4] rfl)
                · refine lv_aload_n hx hb dX12_oars_78 rfl (lv_at hl 3 rfl) ?_
                  refine lv_iload hx hb dX12_oars_79 (lv_at hl 1 rfl) ?_
                  refine lv_iconst (v := 1) hx hb dX12_oars_81 (by decide) ?_
                  refine eRi (va_runV (As := [.int (nI j1), .int 1]) (rest := [.int w2]) ⟨hx, hb, hml, hown, hts⟩ (c_X12_tholeOf l D cI cB cZ cJ tx h q im m_tholes j1 1 (lf_X12_oars_63 h q im ms m_tholes (nI tn1) hf_ms hms c_1 n_4 c_7 tn1 tn1a tn1b rfl j1 w1 w2 k28 hj28 hk28 c_8 n_35 r_39 c_40 r_55 c_56 x_57 ex_57 r_60 c_61) (lf_X12_oars_64 h q im ms m_tholes (nI tn1) hf_ms hms c_1 n_4 c_7 tn1 tn1a tn1b rfl j1 w1 w2 k28 hj28 hk28 c_8 n_35 r_39 c_40 r_55 c_56 x_57 ex_57 r_60 c_61) H.size) (zV hts k_1992 v_X12_tholeOf ⟨Nat.le_of_ble_eq_true rfl, Nat.le_of_ble_eq_true rfl⟩) (pV (pxS hK hP hD [0, 1] (by decide) rfl) hK hP 0 rfl rfl) rfl rfl hl.1 rfl (lv_room (Nat.le_of_ble_eq_true rfl)) dX12_oars_82 ⟨Nat.le_of_ble_eq_true rfl, Nat.le_of_ble_eq_true rfl⟩) hP hS hA (fun r_65 H locs wr_65 hP hS => ?_)
                  refine lv_if_eq (tgt := 92) hx hb dX12_oars_85 (by decide) (fun c_66 => ?_) (fun c_66 => ?_)
                  · refine lv_iconst (v := 0) hx hb dX12_oars_92 (by decide) ?_
                    refine lv_iadd hx hb dX12_oars_93 ?_
                    refine lv_topi (fun x_67 ex_67 => ?_)
                    refine lv_istore_n (lv' := [(3, .int x_67), (2, .int x_57), (4, .int (nI j1)), (0, .ref h), (1, .int (nI tn1))]) hx hb dX12_oars_94 rfl hl (by decide) rfl (fun ls hl => ?_)
                    refine lv_iinc (v := nI (j1 + 1)) (lv' := [(4, .int (nI (j1 + 1))), (3, .int x_67), (2, .int x_57), (0, .ref h), (1, .int (nI tn1))]) hx hb dX12_oars_95 hl (k := 2) rfl (nI_1 j1) (by decide) rfl (fun ls hl => ?_)
                    refine lv_goto (tgt := 28) hx hb dX12_oars_98 (by decide) ?_
                    exact ih28 (j1 + 1) x_57 x_67 H locs ls (by omega) (by omega)  (hP.sub [0, 1] rfl)  hS (lv_sub hl [0, 1, 2, 3, 4] rfl)
                  · refine lv_iconst (v := 1) hx hb dX12_oars_88 (by decide) ?_
                    refine lv_goto (tgt := 93) hx hb dX12_oars_89 (by decide) ?_
                    refine lv_iadd hx hb dX12_oars_93 ?_
                    refine lv_topi (fun x_68 ex_68 => ?_)
                    refine lv_istore_n (lv' := [(3, .int x_68), (2, .int x_57), (4, .int (nI j1)), (0, .ref h), (1, .int (nI tn1))]) hx hb dX12_oars_94 rfl hl (by decide) rfl (fun ls hl => ?_)
                    refine lv_iinc (v := nI (j1 + 1)) (lv' := [(4, .int (nI (j1 + 1))), (3, .int x_68), (2, .int x_57), (0, .ref h), (1, .int (nI tn1))]) hx hb dX12_oars_95 hl (k := 2) rfl (nI_1 j1) (by decide) rfl (fun ls hl => ?_)
                    refine lv_goto (tgt := 28) hx hb dX12_oars_98 (by decide) ?_
                    exact ih28 (j1 + 1) x_57 x_68 H locs ls (by omega) (by omega)  (hP.sub [0, 1] rfl)  hS (lv_sub hl [0, 1, 2, 3, 4] rfl)
              · refine lv_iconst (v := 1) hx hb dX12_oars_60 (by decide) ?_
                refine lv_goto (tgt := 65) hx hb dX12_oars_61 (by decide) ?_
                refine lv_iadd hx hb dX12_oars_65 ?_
                refine lv_topi (fun x_69 ex_69 => ?_)
                refine lv_istore_n (lv' := [(2, .int x_69), (4, .int (nI j1)), (3, .int w2), (0, .ref h), (1, .int (nI tn1))]) hx hb dX12_oars_66 rfl hl (by decide) rfl (fun ls hl => ?_)
                refine lv_iload_n hx hb dX12_oars_67 rfl (lv_at hl 2 rfl) ?_
                refine lv_aload_n hx hb dX12_oars_68 rfl (lv_at hl 3 rfl) ?_
                refine lv_iload hx hb dX12_oars_69 (lv_at hl 1 rfl) ?_
                refine lv_iconst (v := 0) hx hb dX12_oars_71 (by decide) ?_
                refine eRi (va_runV (As := [.int (nI j1), .int 0]) (rest := [.int w2]) ⟨hx, hb, hml, hown, hts⟩ (c_X12_tholeOf l D cI cB cZ cJ tx h q im m_tholes j1 0 (lf_X12_oars_70 h q im ms m_tholes (nI tn1) hf_ms hms c_1 n_4 c_7 tn1 tn1a tn1b rfl j1 w1 w2 k28 hj28 hk28 c_8 n_35 r_39 c_40 r_55 c_56 x_69 ex_69) (lf_X12_oars_71 h q im ms m_tholes (nI tn1) hf_ms hms c_1 n_4 c_7 tn1 tn1a tn1b rfl j1 w1 w2 k28 hj28 hk28 c_8 n_35 r_39 c_40 r_55 c_56 x_69 ex_69) H.size) (zV hts k_1992 v_X12_tholeOf ⟨Nat.le_of_ble_eq_true rfl, Nat.le_of_ble_eq_true rfl⟩) (pV (pxS hK hP hD [0, 1] (by decide) rfl) hK hP 0 rfl rfl) rfl rfl hl.1 rfl (lv_room (Nat.le_of_ble_eq_true rfl)) dX12_oars_72 ⟨Nat.le_of_ble_eq_true rfl, Nat.le_of_ble_eq_true rfl⟩) hP hS hA (fun r_72 H locs wr_72 hP hS => ?_)
                refine lv_if_eq (tgt := 92) hx hb dX12_oars_75 (by decide) (fun c_73 => ?_) (fun c_73 => ?_)
                · refine lv_iconst (v := 0) hx hb dX12_oars_92 (by decide) ?_
                  refine lv_iadd hx hb dX12_oars_93 ?_
                  refine lv_topi (fun x_74 ex_74 => ?_)
                  refine lv_istore_n (lv' := [(3, .int x_74), (2, .int x_69), (4, .int (nI j1)), (0, .ref h), (1, .int (nI tn1))]) hx hb dX12_oars_94 rfl hl (by decide) rfl (fun ls hl => ?_)
                  refine lv_iinc (v := nI (j1 + 1)) (lv' := [(4, .int (nI (j1 + 1))), (3, .int x_74), (2, .int x_69), (0, .ref h), (1, .int (nI tn1))]) hx hb dX12_oars_95 hl (k := 2) rfl (nI_1 j1) (by decide) rfl (fun ls hl => ?_)
                  refine lv_goto (tgt := 28) hx hb dX12_oars_98 (by decide) ?_
                  exact ih28 (j1 + 1) x_69 x_74 H locs ls (by omega) (by omega)  (hP.sub [0, 1] rfl)  hS (lv_sub hl [0, 1, 2, 3, 4] rfl)
                · refine lv_aload_n hx hb dX12_oars_78 rfl (lv_at hl 3 rfl) ?_
                  refine lv_iload hx hb dX12_oars_79 (lv_at hl 1 rfl) ?_
                  refine lv_iconst (v := 1) hx hb dX12_oars_81 (by decide) ?_
                  refine eRi (va_runV (As := [.int (nI j1), .int 1]) (rest := [.int w2]) ⟨hx, hb, hml, hown, hts⟩ (c_X12_tholeOf l D cI cB cZ cJ tx h q im m_tholes j1 1 (lf_X12_oars_75 h q im ms m_tholes (nI tn1) hf_ms hms c_1 n_4 c_7 tn1 tn1a tn1b rfl j1 w1 w2 k28 hj28 hk28 c_8 n_35 r_39 c_40 r_55 c_56 x_69 ex_69 r_72 c_73) (lf_X12_oars_76 h q im ms m_tholes (nI tn1) hf_ms hms c_1 n_4 c_7 tn1 tn1a tn1b rfl j1 w1 w2 k28 hj28 hk28 c_8 n_35 r_39 c_40 r_55 c_56 x_69 ex_69 r_72 c_73) H.size) (zV hts k_1992 v_X12_tholeOf ⟨Nat.le_of_ble_eq_true rfl, Nat.le_of_ble_eq_true rfl⟩) (pV (pxS hK hP hD [0, 1] (by decide) rfl) hK hP 0 rfl rfl) rfl rfl hl.1 rfl (lv_room (Nat.le_of_ble_eq_true rfl)) dX12_oars_82 ⟨Nat.le_of_ble_eq_true rfl, Nat.le_of_ble_eq_true rfl⟩) hP hS hA (fun r_77 H locs wr_77 hP hS => ?_)
                  refine lv_if_eq (tgt := 92) hx hb dX12_oars_85 (by decide) (fun c_78 => ?_) (fun c_78 => ?_)
                  · refine lv_iconst (v := 0) hx hb dX12_oars_92 (by decide) ?_
                    refine lv_iadd hx hb dX12_oars_93 ?_
                    refine lv_topi (fun x_79 ex_79 => ?_)
                    refine lv_istore_n (lv' := [(3, .int x_79), (2, .int x_69), (4, .int (nI j1)), (0, .ref h), (1, .int (nI tn1))]) hx hb dX12_oars_94 rfl hl (by decide) rfl (fun ls hl => ?_)
                    refine lv_iinc (v := nI (j1 + 1)) (lv' := [(4, .int (nI (j1 + 1))), (3, .int x_79), (2, .int x_69), (0, .ref h), (1, .int (nI tn1))]) hx hb dX12_oars_95 hl (k := 2) rfl (nI_1 j1) (by decide) rfl (fun ls hl => ?_)
                    refine lv_goto (tgt := 28) hx hb dX12_oars_98 (by decide) ?_
                    exact ih28 (j1 + 1) x_69 x_79 H locs ls (by omega) (by omega)  (hP.sub [0, 1] rfl)  hS (lv_sub hl [0, 1, 2, 3, 4] rfl)
                  · refine lv_iconst (v := 1) hx hb dX12_oars_88 (by decide) ?_
                    refine lv_goto (tgt := 93) hx hb dX12_oars_89 (by decide) ?_
                    refine lv_iadd hx hb dX12_oars_93 ?_
                    refine lv_topi (fun x_80 ex_80 => ?_)
                    refine lv_istore_n (lv' := [(3, .int x_80), (2, .int x_69), (4, .int (nI j1)), (0, .ref h), (1, .int (nI tn1))]) hx hb dX12_oars_94 rfl hl (by decide) rfl (fun ls hl => ?_)
                    refine lv_iinc (v := nI (j1 + 1)) (lv' := [(4, .int (nI (j1 + 1))), (3, .int x_80), (2, .int x_69), (0, .ref h), (1, .int (nI tn1))]) hx hb dX12_oars_95 hl (k := 2) rfl (nI_1 j1) (by decide) rfl (fun ls hl => ?_)
                    refine lv_goto (tgt := 28) hx hb dX12_oars_98 (by decide) ?_
                    exact ih28 (j1 + 1) x_69 x_80 H locs ls (by omega) (by omega)  (hP.sub [0, 1] rfl)  hS (lv_sub hl [0, 1, 2, 3, 4] rfl)
      exact lp28 (ms + 1) 0 0 0 H locs ls (by omega) (by omega)  (hP.sub [0, 1] rfl)  hS (lv_sub hl [0, 1, 2, 3, 4] rfl)
    · refine lv_iconst (v := (-1)) hx hb dX12_oars_19 (by decide) ?_
      exact W.iret (v := (-1)) hx hb hr (fun tt9 ht hW => ⟨⟨((-1) : Int32), (), rfl, trivial, trivial⟩, hS.F ht⟩) hS.2.2 dX12_oars_20 hlocks

theorem lf_X12_phosphor_8 (h : Nat) (q : Nat → Nat) (im : Nat → Int32) (m_phosphors : Nat → Int32) (n1 : Int32) (n2 : Int32) (n3 : Int32) (c_2 : (0 : Int32) ≤ n1 ∧ n1 ≤ 11) (tn1 : Nat) (tn1a : 0 ≤ tn1) (tn1b : tn1 ≤ 11) (tn1e : n1 = nI tn1) (c_4 : (0 : Int32) ≤ n2 ∧ n2 ≤ 5) (tn2 : Nat) (tn2a : 0 ≤ tn2) (tn2b : tn2 ≤ 5) (tn2e : n2 = nI tn2) (c_6 : (0 : Int32) ≤ n3 ∧ n3 ≤ 999) (tn3 : Nat) (tn3a : 0 ≤ tn3) (tn3b : tn3 ≤ 999) (tn3e : n3 = nI tn3) : vp_in (nI ((12 * tn2) + tn1)) 72 := by
  first | exact vp_in_nI (by omega) (by decide) | (unfold vp_in; decide)
set_option maxHeartbeats 4000000 in
set_option maxRecDepth 100000 in
theorem c_X12_phosphor (l : Launch) (D : va_G) (cI cB cZ cJ : ClassId) (tx : List (ClassId × FieldType)) (h : Nat) (q : Nat → Nat) (im : Nat → Int32) (m_phosphors : Nat → Int32) (n1 : Int32) (n2 : Int32) (n3 : Int32) : WrI l D cI cB cZ cJ tx yX12_phosphor cX12_phosphor 4 (some .boolean) 1 0 0 [.ref h, .int n1, .int n2, .int n3] [(h, .inr (12, mG q im)), (q 74, .inl (cI, 72, .inl m_phosphors))] (fun (r : Int32) (v : (Nat → Int32)) => True) (fun v => [(h, .inr (12, mG q im)), (q 74, .inl (cI, 72, .inl v))]) := by
  refine wri_of2 (by decide) (Nat.le_of_ble_eq_true rfl) ?_
  intro p e s m below meth c A ls H locs hC hK hP hD hA hS hl
  obtain ⟨hx, hb, hr, hml, hown, hts, hlocks, hin⟩ := hC
  have hown : s.vm.findClass RX12 = some m.cls := hown
  have hl : lv_has ls 4 [(0, .ref h), (1, .int n1), (2, .int n2), (3, .int n3)] := hl
  refine lv_iload_n hx hb dX12_phosphor_0 rfl (lv_at hl 1 rfl) ?_
  refine lv_i2l (v := n1.toInt64) hx hb dX12_phosphor_1 rfl ?_
  refine lv_lconst (v := 0) hx hb dX12_phosphor_2 (by decide) ?_
  refine lv_ldc2 (v := 11) hx hb hown (hts _ k_2009) dX12_phosphor_3 ?_
  refine eRi (va_runS (As := [.long n1.toInt64, .long 0, .long 11]) (rest := []) ⟨hx, hb, hml, hown, hts⟩ (c_X12_isIn l D cI cB cZ cJ tx n1.toInt64 0 11 H.size) (zS hts k_1602 v_X12_isIn ⟨Nat.le_of_ble_eq_true rfl, Nat.le_of_ble_eq_true rfl⟩) (px0 hK) rfl rfl hl.1 rfl (lv_room (Nat.le_of_ble_eq_true rfl)) dX12_phosphor_6 ⟨Nat.le_of_ble_eq_true rfl, Nat.le_of_ble_eq_true rfl⟩) hP hS hA (fun r_1 H locs wr_1 hP hS => ?_)
  have wr_1 : r_1 = bi ((0 : Int32) ≤ n1 ∧ n1 ≤ 11) := isIn32 (lo := 0) (hi := 11) (by decide) (by decide) wr_1
  subst wr_1
  refine lv_bi_eq (tgt := 36) hx hb dX12_phosphor_9 (by decide) (fun c_2 => ?_) (fun c_2 => ?_)
  · refine lv_iconst (v := 0) hx hb dX12_phosphor_36 (by decide) ?_
    exact W.zret (v := 0) hx hb hr (by decide) (fun tt9 ht hW => ⟨⟨(0 : Int32), ((m_phosphors : Nat → Int32)), rfl, trivial, ⟨by rw [ht]; exact hP, hD⟩⟩, hS.F ht⟩) hS.2.2 dX12_phosphor_37 hlocks
  · obtain ⟨tn1, tn1a, tn1b, tn1e⟩ := of_rng 0 11 rfl rfl c_2
    subst tn1e
    refine lv_iload_n hx hb dX12_phosphor_12 rfl (lv_at hl 2 rfl) ?_
    refine lv_i2l (v := n2.toInt64) hx hb dX12_phosphor_13 rfl ?_
    refine lv_lconst (v := 0) hx hb dX12_phosphor_14 (by decide) ?_
    refine lv_ldc2 (v := 5) hx hb hown (hts _ k_2010) dX12_phosphor_15 ?_
    refine eRi (va_runS (As := [.long n2.toInt64, .long 0, .long 5]) (rest := []) ⟨hx, hb, hml, hown, hts⟩ (c_X12_isIn l D cI cB cZ cJ tx n2.toInt64 0 5 H.size) (zS hts k_1602 v_X12_isIn ⟨Nat.le_of_ble_eq_true rfl, Nat.le_of_ble_eq_true rfl⟩) (px0 hK) rfl rfl hl.1 rfl (lv_room (Nat.le_of_ble_eq_true rfl)) dX12_phosphor_18 ⟨Nat.le_of_ble_eq_true rfl, Nat.le_of_ble_eq_true rfl⟩) hP hS hA (fun r_3 H locs wr_3 hP hS => ?_)
    have wr_3 : r_3 = bi ((0 : Int32) ≤ n2 ∧ n2 ≤ 5) := isIn32 (lo := 0) (hi := 5) (by decide) (by decide) wr_3
    subst wr_3
    refine lv_bi_eq (tgt := 36) hx hb dX12_phosphor_21 (by decide) (fun c_4 => ?_) (fun c_4 => ?_)
    · refine lv_iconst (v := 0) hx hb dX12_phosphor_36 (by decide) ?_
      exact W.zret (v := 0) hx hb hr (by decide) (fun tt9 ht hW => ⟨⟨(0 : Int32), ((m_phosphors : Nat → Int32)), rfl, trivial, ⟨by rw [ht]; exact hP, hD⟩⟩, hS.F ht⟩) hS.2.2 dX12_phosphor_37 hlocks
    · obtain ⟨tn2, tn2a, tn2b, tn2e⟩ := of_rng 0 5 rfl rfl c_4
      subst tn2e
      refine lv_iload_n hx hb dX12_phosphor_24 rfl (lv_at hl 3 rfl) ?_
      refine lv_i2l (v := n3.toInt64) hx hb dX12_phosphor_25 rfl ?_
      refine lv_lconst (v := 0) hx hb dX12_phosphor_26 (by decide) ?_
      refine lv_ldc2 (v := 999) hx hb hown (hts _ k_2011) dX12_phosphor_27 ?_
      refine eRi (va_runS (As := [.long n3.toInt64, .long 0, .long 999]) (rest := []) ⟨hx, hb, hml, hown, hts⟩ (c_X12_isIn l D cI cB cZ cJ tx n3.toInt64 0 999 H.size) (zS hts k_1602 v_X12_isIn ⟨Nat.le_of_ble_eq_true rfl, Nat.le_of_ble_eq_true rfl⟩) (px0 hK) rfl rfl hl.1 rfl (lv_room (Nat.le_of_ble_eq_true rfl)) dX12_phosphor_30 ⟨Nat.le_of_ble_eq_true rfl, Nat.le_of_ble_eq_true rfl⟩) hP hS hA (fun r_5 H locs wr_5 hP hS => ?_)
      have wr_5 : r_5 = bi ((0 : Int32) ≤ n3 ∧ n3 ≤ 999) := isIn32 (lo := 0) (hi := 999) (by decide) (by decide) wr_5
      subst wr_5
      refine lv_bi_ne (tgt := 38) hx hb dX12_phosphor_33 (by decide) (fun c_6 => ?_) (fun c_6 => ?_)
      · obtain ⟨tn3, tn3a, tn3b, tn3e⟩ := of_rng 0 999 rfl rfl c_6
        subst tn3e
        refine lv_aload_n hx hb dX12_phosphor_38 rfl (lv_at hl 0 rfl) ?_
        refine va_get (D := D) (ci := 12) (v := .ref (q 74)) (C := RX12) (T := TX12) (N := 81) hx hb hts inT_X12 hown hK.1 hP 0 rfl rfl 74 (by decide) (hts _ k_1427) (fun _ h9 => h9) rfl dX12_phosphor_39 ?_
        refine lv_bipush (v := 12) hx hb dX12_phosphor_42 (by decide) ?_
        refine lv_iload_n hx hb dX12_phosphor_44 rfl (lv_at hl 2 rfl) ?_
        refine lv_imul hx hb dX12_phosphor_45 ?_
        refine lv_topv (y := nI (12 * tn2)) (pk_mul 12 tn2) ?_
        refine lv_iload_n hx hb dX12_phosphor_46 rfl (lv_at hl 1 rfl) ?_
        refine lv_iadd hx hb dX12_phosphor_47 ?_
        refine lv_topv (y := nI ((12 * tn2) + tn1)) (nI_add (12 * tn2) tn1) ?_
        refine lv_iload_n hx hb dX12_phosphor_48 rfl (lv_at hl 3 rfl) ?_
        refine st_i hx hb hK hP hD hS 1 rfl (lf_X12_phosphor_8 h q im m_phosphors (nI tn1) (nI tn2) (nI tn3) c_2 tn1 tn1a tn1b rfl c_4 tn2 tn2a tn2b rfl c_6 tn3 tn3a tn3b rfl) dX12_phosphor_49 (fun f_7 H locs hP hD hS => ?_)
        have hP : va_P D vwCl [(h, .inr (12, mG q im)), (q 74, .inl (cI, 72, .inl f_7))] H := hP
        have hD : va_D A [(h, .inr (12, mG q im)), (q 74, .inl (cI, 72, .inl f_7))] := hD
        refine lv_iconst (v := 1) hx hb dX12_phosphor_50 (by decide) ?_
        exact W.zret (v := 1) hx hb hr (by decide) (fun tt9 ht hW => ⟨⟨(1 : Int32), ((f_7 : Nat → Int32)), rfl, trivial, ⟨by rw [ht]; exact hP, hD⟩⟩, hS.F ht⟩) hS.2.2 dX12_phosphor_51 hlocks
      · refine lv_iconst (v := 0) hx hb dX12_phosphor_36 (by decide) ?_
        exact W.zret (v := 0) hx hb hr (by decide) (fun tt9 ht hW => ⟨⟨(0 : Int32), ((m_phosphors : Nat → Int32)), rfl, trivial, ⟨by rw [ht]; exact hP, hD⟩⟩, hS.F ht⟩) hS.2.2 dX12_phosphor_37 hlocks

theorem lf_X12_muchAt_3 (h : Nat) (q : Nat → Nat) (im : Nat → Int32) (m_phosphors : Nat → Int32) (c0 : Nat) (r0 : Nat) (w0 : Nat) (h0 : Nat) (hcw : c0 + w0 ≤ 12) (hrh : r0 + h0 ≤ 6) (j1 : Nat) (w1 : Int32) (k6 : Nat) (hj6 : j1 ≤ w0) (hk6 : w0 < j1 + (k6 + 1)) (c_1 : nI w0 ≤ nI j1) : w0 ≤ j1 := by
  exact (nI_leI (a := w0) (b := j1) (by omega) (by omega)).mp c_1
theorem lf_X12_muchAt_5 (h : Nat) (q : Nat → Nat) (im : Nat → Int32) (m_phosphors : Nat → Int32) (c0 : Nat) (r0 : Nat) (w0 : Nat) (h0 : Nat) (hcw : c0 + w0 ≤ 12) (hrh : r0 + h0 ≤ 6) (j1 : Nat) (w1 : Int32) (k6 : Nat) (hj6 : j1 ≤ w0) (hk6 : w0 < j1 + (k6 + 1)) (c_1 : ¬ nI w0 ≤ nI j1) : j1 < w0 := by
  exact Nat.lt_of_not_le (fun q => c_1 ((nI_leI (a := w0) (b := j1) (by omega) (by omega)).mpr q))
theorem lf_X12_muchAt_8 (h : Nat) (q : Nat → Nat) (im : Nat → Int32) (m_phosphors : Nat → Int32) (c0 : Nat) (r0 : Nat) (w0 : Nat) (h0 : Nat) (hcw : c0 + w0 ≤ 12) (hrh : r0 + h0 ≤ 6) (j1 : Nat) (w1 : Int32) (k6 : Nat) (hj6 : j1 ≤ w0) (hk6 : w0 < j1 + (k6 + 1)) (c_1 : ¬ nI w0 ≤ nI j1) (n_4 : j1 < w0) (j2 : Nat) (w2 : Int32) (k15 : Nat) (hj15 : j2 ≤ h0) (hk15 : h0 < j2 + (k15 + 1)) (c_6 : nI h0 ≤ nI j2) : h0 ≤ j2 := by
  exact (nI_leI (a := h0) (b := j2) (by omega) (by omega)).mp c_6
theorem lf_X12_muchAt_10 (h : Nat) (q : Nat → Nat) (im : Nat → Int32) (m_phosphors : Nat → Int32) (c0 : Nat) (r0 : Nat) (w0 : Nat) (h0 : Nat) (hcw : c0 + w0 ≤ 12) (hrh : r0 + h0 ≤ 6) (j1 : Nat) (w1 : Int32) (k6 : Nat) (hj6 : j1 ≤ w0) (hk6 : w0 < j1 + (k6 + 1)) (c_1 : ¬ nI w0 ≤ nI j1) (n_4 : j1 < w0) (j2 : Nat) (w2 : Int32) (k15 : Nat) (hj15 : j2 ≤ h0) (hk15 : h0 < j2 + (k15 + 1)) (c_6 : ¬ nI h0 ≤ nI j2) : j2 < h0 := by
  exact Nat.lt_of_not_le (fun q => c_6 ((nI_leI (a := h0) (b := j2) (by omega) (by omega)).mpr q))
theorem lf_X12_muchAt_11 (h : Nat) (q : Nat → Nat) (im : Nat → Int32) (m_phosphors : Nat → Int32) (c0 : Nat) (r0 : Nat) (w0 : Nat) (h0 : Nat) (hcw : c0 + w0 ≤ 12) (hrh : r0 + h0 ≤ 6) (j1 : Nat) (w1 : Int32) (k6 : Nat) (hj6 : j1 ≤ w0) (hk6 : w0 < j1 + (k6 + 1)) (c_1 : ¬ nI w0 ≤ nI j1) (n_4 : j1 < w0) (j2 : Nat) (w2 : Int32) (k15 : Nat) (hj15 : j2 ≤ h0) (hk15 : h0 < j2 + (k15 + 1)) (c_6 : ¬ nI h0 ≤ nI j2) (n_9 : j2 < h0) : vp_in (nI (((12 * (r0 + j2)) + c0) + j1)) 72 := by
  first | exact vp_in_nI (by omega) (by decide) | (unfold vp_in; decide)
set_option maxHeartbeats 4000000 in
set_option maxRecDepth 100000 in
theorem c_X12_muchAt (l : Launch) (D : va_G) (cI cB cZ cJ : ClassId) (tx : List (ClassId × FieldType)) (h : Nat) (q : Nat → Nat) (im : Nat → Int32) (m_phosphors : Nat → Int32) (c0 : Nat) (r0 : Nat) (w0 : Nat) (h0 : Nat) (hcw : c0 + w0 ≤ 12) (hrh : r0 + h0 ≤ 6) : RdI l D cI cB cZ cJ tx yX12_muchAt cX12_muchAt 8 (some .int) 0 [.ref h, .int (nI c0), .int (nI r0), .int (nI w0), .int (nI h0)] [(h, .inr (12, mG q im)), (q 74, .inl (cI, 72, .inl m_phosphors))] (fun r => True) := by
  refine rdi_of2 (by decide) (Nat.le_of_ble_eq_true rfl) ?_
  intro p e s m below meth c A ls H locs hC hK hP hD hA hS hl
  obtain ⟨hx, hb, hr, hml, hown, hts, hlocks, hin⟩ := hC
  have hown : s.vm.findClass RX12 = some m.cls := hown
  have hl : lv_has ls 8 [(0, .ref h), (1, .int (nI c0)), (2, .int (nI r0)), (3, .int (nI w0)), (4, .int (nI h0))] := hl
  refine lv_iconst (v := 0) hx hb dX12_muchAt_0 (by decide) ?_
  refine lv_istore (lv' := [(5, .int 0), (0, .ref h), (1, .int (nI c0)), (2, .int (nI r0)), (3, .int (nI w0)), (4, .int (nI h0))]) hx hb dX12_muchAt_1 hl (by decide) rfl (fun ls hl => ?_)
  refine lv_iconst (v := 0) hx hb dX12_muchAt_3 (by decide) ?_
  refine lv_istore (lv' := [(6, .int 0), (5, .int 0), (0, .ref h), (1, .int (nI c0)), (2, .int (nI r0)), (3, .int (nI w0)), (4, .int (nI h0))]) hx hb dX12_muchAt_4 hl (by decide) rfl (fun ls hl => ?_)
  have lp6 : ∀ (k6 : Nat) (j1 : Nat) (w1 : Int32) (H : Heap) (locs : List Loc) (ls : Array Slot), j1 ≤ w0 → w0 < j1 + k6 → va_P D vwCl [(h, .inr (12, mG q im)), (q 74, .inl (cI, 72, .inl m_phosphors))] H → va_S A s.heap H locs → lv_has ls 8 [(6, .int (nI j1)), (5, .int w1), (0, .ref h), (1, .int (nI c0)), (2, .int (nI r0)), (3, .int (nI w0)), (4, .int (nI h0))] → W p l e (rmX 0 0 0) s m ([.ref h, .int (nI c0), .int (nI r0), .int (nI w0), .int (nI h0)] : List Value).toArray below meth c H locs 0 0 (MQ below (va_Qi (fun r (_ : Unit) => (fun r => True) r) (fun _ _ => True) A) ([.ref h, .int (nI c0), .int (nI r0), .int (nI w0), .int (nI h0)] : List Value).toArray s 0 0 A) (F0 m 6 ls []) := by
    intro k6
    induction k6 with
    | zero =>
      intro j1 w1 H locs ls hj6 hk6  hP hS hl
      exact absurd hk6 (by omega)
    | succ k6 ih6 =>
      intro j1 w1 H locs ls hj6 hk6  hP hS hl
      refine lv_iload hx hb dX12_muchAt_6 (lv_at hl 0 rfl) ?_
      refine lv_iload_n hx hb dX12_muchAt_8 rfl (lv_at hl 5 rfl) ?_
      refine lv_icmp_ge (tgt := 56) hx hb dX12_muchAt_9 (by decide) (fun c_1 => ?_) (fun c_1 => ?_)
      · have n_2 : w0 ≤ j1 := (lf_X12_muchAt_3 h q im m_phosphors c0 r0 w0 h0 hcw hrh j1 w1 k6 hj6 hk6 c_1)
        refine lv_iload hx hb dX12_muchAt_56 (lv_at hl 1 rfl) ?_
        exact W.iret (v := w1) hx hb hr (fun tt9 ht hW => ⟨⟨(w1 : Int32), (), rfl, trivial, trivial⟩, hS.F ht⟩) hS.2.2 dX12_muchAt_58 hlocks
      · have n_4 : j1 < w0 := (lf_X12_muchAt_5 h q im m_phosphors c0 r0 w0 h0 hcw hrh j1 w1 k6 hj6 hk6 c_1)
        refine lv_iconst (v := 0) hx hb dX12_muchAt_12 (by decide) ?_
        refine lv_istore (lv' := [(7, .int 0), (6, .int (nI j1)), (5, .int w1), (0, .ref h), (1, .int (nI c0)), (2, .int (nI r0)), (3, .int (nI w0)), (4, .int (nI h0))]) hx hb dX12_muchAt_13 hl (by decide) rfl (fun ls hl => ?_)
        have lp15 : ∀ (k15 : Nat) (j2 : Nat) (w2 : Int32) (H : Heap) (locs : List Loc) (ls : Array Slot), j2 ≤ h0 → h0 < j2 + k15 → va_P D vwCl [(h, .inr (12, mG q im)), (q 74, .inl (cI, 72, .inl m_phosphors))] H → va_S A s.heap H locs → lv_has ls 8 [(7, .int (nI j2)), (6, .int (nI j1)), (5, .int w2), (0, .ref h), (1, .int (nI c0)), (2, .int (nI r0)), (3, .int (nI w0)), (4, .int (nI h0))] → W p l e (rmX 0 0 0) s m ([.ref h, .int (nI c0), .int (nI r0), .int (nI w0), .int (nI h0)] : List Value).toArray below meth c H locs 0 0 (MQ below (va_Qi (fun r (_ : Unit) => (fun r => True) r) (fun _ _ => True) A) ([.ref h, .int (nI c0), .int (nI r0), .int (nI w0), .int (nI h0)] : List Value).toArray s 0 0 A) (F0 m 15 ls []) := by
          intro k15
          induction k15 with
          | zero =>
            intro j2 w2 H locs ls hj15 hk15  hP hS hl
            exact absurd hk15 (by omega)
          | succ k15 ih15 =>
            intro j2 w2 H locs ls hj15 hk15  hP hS hl
            refine lv_iload hx hb dX12_muchAt_15 (lv_at hl 0 rfl) ?_
            refine lv_iload hx hb dX12_muchAt_17 (lv_at hl 7 rfl) ?_
            refine lv_icmp_ge (tgt := 50) hx hb dX12_muchAt_19 (by decide) (fun c_6 => ?_) (fun c_6 => ?_)
            · have n_7 : h0 ≤ j2 := (lf_X12_muchAt_8 h q im m_phosphors c0 r0 w0 h0 hcw hrh j1 w1 k6 hj6 hk6 c_1 n_4 j2 w2 k15 hj15 hk15 c_6)
              refine lv_iinc (v := nI (j1 + 1)) (lv' := [(6, .int (nI (j1 + 1))), (7, .int (nI j2)), (5, .int w2), (0, .ref h), (1, .int (nI c0)), (2, .int (nI r0)), (3, .int (nI w0)), (4, .int (nI h0))]) hx hb dX12_muchAt_50 hl (k := 1) rfl (nI_1 j1) (by decide) rfl (fun ls hl => ?_)
              refine lv_goto (tgt := 6) hx hb dX12_muchAt_53 (by decide) ?_
              exact ih6 (j1 + 1) w2 H locs ls (by omega) (by omega)  (hP.sub [0, 1] rfl)  hS (lv_sub hl [0, 2, 3, 4, 5, 6, 7] rfl)
            · have n_9 : j2 < h0 := (lf_X12_muchAt_10 h q im m_phosphors c0 r0 w0 h0 hcw hrh j1 w1 k6 hj6 hk6 c_1 n_4 j2 w2 k15 hj15 hk15 c_6)
              refine lv_iload hx hb dX12_muchAt_22 (lv_at hl 2 rfl) ?_
              refine lv_aload_n hx hb dX12_muchAt_24 rfl (lv_at hl 3 rfl) ?_
              refine va_get (D := D) (ci := 12) (v := .ref (q 74)) (C := RX12) (T := TX12) (N := 81) hx hb hts inT_X12 hown hK.1 hP 0 rfl rfl 74 (by decide) (hts _ k_1427) (fun _ h9 => h9) rfl dX12_muchAt_25 ?_
              refine lv_bipush (v := 12) hx hb dX12_muchAt_28 (by decide) ?_
              refine lv_iload_n hx hb dX12_muchAt_30 rfl (lv_at hl 5 rfl) ?_
              refine lv_iload hx hb dX12_muchAt_31 (lv_at hl 0 rfl) ?_
              refine lv_iadd hx hb dX12_muchAt_33 ?_
              refine lv_topv (y := nI (r0 + j2)) (nI_add r0 j2) ?_
              refine lv_imul hx hb dX12_muchAt_34 ?_
              refine lv_topv (y := nI (12 * (r0 + j2))) (pk_mul 12 (r0 + j2)) ?_
              refine lv_iload_n hx hb dX12_muchAt_35 rfl (lv_at hl 4 rfl) ?_
              refine lv_iadd hx hb dX12_muchAt_36 ?_
              refine lv_topv (y := nI ((12 * (r0 + j2)) + c0)) (nI_add (12 * (r0 + j2)) c0) ?_
              refine lv_iload hx hb dX12_muchAt_37 (lv_at hl 1 rfl) ?_
              refine lv_iadd hx hb dX12_muchAt_39 ?_
              refine lv_topv (y := nI (((12 * (r0 + j2)) + c0) + j1)) (nI_add ((12 * (r0 + j2)) + c0) j1) ?_
              refine ld_i hx hb hK hP 1 rfl (lf_X12_muchAt_11 h q im m_phosphors c0 r0 w0 h0 hcw hrh j1 w1 k6 hj6 hk6 c_1 n_4 j2 w2 k15 hj15 hk15 c_6 n_9) dX12_muchAt_40 (fun x_12 => ?_)
              refine lv_iadd hx hb dX12_muchAt_41 ?_
              refine lv_topi (fun x_13 ex_13 => ?_)
              refine lv_istore (lv' := [(5, .int x_13), (7, .int (nI j2)), (6, .int (nI j1)), (0, .ref h), (1, .int (nI c0)), (2, .int (nI r0)), (3, .int (nI w0)), (4, .int (nI h0))]) hx hb dX12_muchAt_42 hl (by decide) rfl (fun ls hl => ?_)
              refine lv_iinc (v := nI (j2 + 1)) (lv' := [(7, .int (nI (j2 + 1))), (5, .int x_13), (6, .int (nI j1)), (0, .ref h), (1, .int (nI c0)), (2, .int (nI r0)), (3, .int (nI w0)), (4, .int (nI h0))]) hx hb dX12_muchAt_44 hl (k := 1) rfl (nI_1 j2) (by decide) rfl (fun ls hl => ?_)
              refine lv_goto (tgt := 15) hx hb dX12_muchAt_47 (by decide) ?_
              exact ih15 (j2 + 1) x_13 H locs ls (by omega) (by omega)  (hP.sub [0, 1] rfl)  hS (lv_sub hl [0, 2, 1, 3, 4, 5, 6, 7] rfl)
        exact lp15 (h0 + 1) 0 w1 H locs ls (by omega) (by omega)  (hP.sub [0, 1] rfl)  hS (lv_sub hl [0, 1, 2, 3, 4, 5, 6, 7] rfl)
  exact lp6 (w0 + 1) 0 0 H locs ls (by omega) (by omega)  (hP.sub [0, 1] rfl)  hS (lv_sub hl [0, 1, 2, 3, 4, 5, 6] rfl)

theorem lf_X12_body_9 (h : Nat) (q : Nat → Nat) (im : Nat → Int32) (m_phosphors : Nat → Int32) (n1 : Int32) (n2 : Int32) (n3 : Int32) (c_2 : (1 : Int32) ≤ n1 ∧ n1 ≤ 12) (tn1 : Nat) (tn1a : 1 ≤ tn1) (tn1b : tn1 ≤ 12) (tn1e : n1 = nI tn1) (c_4 : (1 : Int32) ≤ n2 ∧ n2 ≤ 6) (tn2 : Nat) (tn2a : 1 ≤ tn2) (tn2b : tn2 ≤ 6) (tn2e : n2 = nI tn2) (c_6 : (0 : Int32) ≤ n3 ∧ n3 ≤ 4) (tn3 : Nat) (tn3a : 0 ≤ tn3) (tn3b : tn3 ≤ 4) (tn3e : n3 = nI tn3) (j1 : Nat) (b1 : Int32) (b2 : Int32) (b3 : Int32) (b4 : Int32) (k53 : Nat) (hj53 : j1 ≤ 7) (hk53 : 7 < j1 + (k53 + 1)) (c_7 : 6 < nI (j1 + tn2)) : 6 < (j1 + tn2) := by
  exact (nI_ltI (a := 6) (b := (j1 + tn2)) (by omega) (by omega)).mp c_7
theorem lf_X12_body_12 (h : Nat) (q : Nat → Nat) (im : Nat → Int32) (m_phosphors : Nat → Int32) (n1 : Int32) (n2 : Int32) (n3 : Int32) (c_2 : (1 : Int32) ≤ n1 ∧ n1 ≤ 12) (tn1 : Nat) (tn1a : 1 ≤ tn1) (tn1b : tn1 ≤ 12) (tn1e : n1 = nI tn1) (c_4 : (1 : Int32) ≤ n2 ∧ n2 ≤ 6) (tn2 : Nat) (tn2a : 1 ≤ tn2) (tn2b : tn2 ≤ 6) (tn2e : n2 = nI tn2) (c_6 : (0 : Int32) ≤ n3 ∧ n3 ≤ 4) (tn3 : Nat) (tn3a : 0 ≤ tn3) (tn3b : tn3 ≤ 4) (tn3e : n3 = nI tn3) (j1 : Nat) (b1 : Int32) (b2 : Int32) (b3 : Int32) (b4 : Int32) (k53 : Nat) (hj53 : j1 ≤ 7) (hk53 : 7 < j1 + (k53 + 1)) (c_7 : 6 < nI (j1 + tn2)) (n_8 : 6 < (j1 + tn2)) (c_10 : ¬ nI tn3 = 0) : tn3 ≠ 0 := by
  exact fun q => c_10 ((nI_eq (a := tn3) (b := 0) (by omega) (by omega)).mpr q)
theorem lf_X12_body_15 (h : Nat) (q : Nat → Nat) (im : Nat → Int32) (m_phosphors : Nat → Int32) (n1 : Int32) (n2 : Int32) (n3 : Int32) (c_2 : (1 : Int32) ≤ n1 ∧ n1 ≤ 12) (tn1 : Nat) (tn1a : 1 ≤ tn1) (tn1b : tn1 ≤ 12) (tn1e : n1 = nI tn1) (c_4 : (1 : Int32) ≤ n2 ∧ n2 ≤ 6) (tn2 : Nat) (tn2a : 1 ≤ tn2) (tn2b : tn2 ≤ 6) (tn2e : n2 = nI tn2) (c_6 : (0 : Int32) ≤ n3 ∧ n3 ≤ 4) (tn3 : Nat) (tn3a : 0 ≤ tn3) (tn3b : tn3 ≤ 4) (tn3e : n3 = nI tn3) (j1 : Nat) (b1 : Int32) (b2 : Int32) (b3 : Int32) (b4 : Int32) (k53 : Nat) (hj53 : j1 ≤ 7) (hk53 : 7 < j1 + (k53 + 1)) (c_7 : 6 < nI (j1 + tn2)) (n_8 : 6 < (j1 + tn2)) (c_10 : ¬ nI tn3 = 0) (n_11 : tn3 ≠ 0) (c_13 : ¬ nI tn3 = 1) : tn3 ≠ 1 := by
  exact fun q => c_13 ((nI_eq (a := tn3) (b := 1) (by omega) (by omega)).mpr q)
theorem lf_X12_body_18 (h : Nat) (q : Nat → Nat) (im : Nat → Int32) (m_phosphors : Nat → Int32) (n1 : Int32) (n2 : Int32) (n3 : Int32) (c_2 : (1 : Int32) ≤ n1 ∧ n1 ≤ 12) (tn1 : Nat) (tn1a : 1 ≤ tn1) (tn1b : tn1 ≤ 12) (tn1e : n1 = nI tn1) (c_4 : (1 : Int32) ≤ n2 ∧ n2 ≤ 6) (tn2 : Nat) (tn2a : 1 ≤ tn2) (tn2b : tn2 ≤ 6) (tn2e : n2 = nI tn2) (c_6 : (0 : Int32) ≤ n3 ∧ n3 ≤ 4) (tn3 : Nat) (tn3a : 0 ≤ tn3) (tn3b : tn3 ≤ 4) (tn3e : n3 = nI tn3) (j1 : Nat) (b1 : Int32) (b2 : Int32) (b3 : Int32) (b4 : Int32) (k53 : Nat) (hj53 : j1 ≤ 7) (hk53 : 7 < j1 + (k53 + 1)) (c_7 : 6 < nI (j1 + tn2)) (n_8 : 6 < (j1 + tn2)) (c_10 : ¬ nI tn3 = 0) (n_11 : tn3 ≠ 0) (c_13 : ¬ nI tn3 = 1) (n_14 : tn3 ≠ 1) (c_16 : ¬ nI tn3 = 2) : tn3 ≠ 2 := by
  exact fun q => c_16 ((nI_eq (a := tn3) (b := 2) (by omega) (by omega)).mpr q)
theorem lf_X12_body_21 (h : Nat) (q : Nat → Nat) (im : Nat → Int32) (m_phosphors : Nat → Int32) (n1 : Int32) (n2 : Int32) (n3 : Int32) (c_2 : (1 : Int32) ≤ n1 ∧ n1 ≤ 12) (tn1 : Nat) (tn1a : 1 ≤ tn1) (tn1b : tn1 ≤ 12) (tn1e : n1 = nI tn1) (c_4 : (1 : Int32) ≤ n2 ∧ n2 ≤ 6) (tn2 : Nat) (tn2a : 1 ≤ tn2) (tn2b : tn2 ≤ 6) (tn2e : n2 = nI tn2) (c_6 : (0 : Int32) ≤ n3 ∧ n3 ≤ 4) (tn3 : Nat) (tn3a : 0 ≤ tn3) (tn3b : tn3 ≤ 4) (tn3e : n3 = nI tn3) (j1 : Nat) (b1 : Int32) (b2 : Int32) (b3 : Int32) (b4 : Int32) (k53 : Nat) (hj53 : j1 ≤ 7) (hk53 : 7 < j1 + (k53 + 1)) (c_7 : 6 < nI (j1 + tn2)) (n_8 : 6 < (j1 + tn2)) (c_10 : ¬ nI tn3 = 0) (n_11 : tn3 ≠ 0) (c_13 : ¬ nI tn3 = 1) (n_14 : tn3 ≠ 1) (c_16 : ¬ nI tn3 = 2) (n_17 : tn3 ≠ 2) (c_19 : ¬ nI tn3 = 3) : tn3 ≠ 3 := by
  exact fun q => c_19 ((nI_eq (a := tn3) (b := 3) (by omega) (by omega)).mpr q)
theorem lf_X12_body_28 (h : Nat) (q : Nat → Nat) (im : Nat → Int32) (m_phosphors : Nat → Int32) (n1 : Int32) (n2 : Int32) (n3 : Int32) (c_2 : (1 : Int32) ≤ n1 ∧ n1 ≤ 12) (tn1 : Nat) (tn1a : 1 ≤ tn1) (tn1b : tn1 ≤ 12) (tn1e : n1 = nI tn1) (c_4 : (1 : Int32) ≤ n2 ∧ n2 ≤ 6) (tn2 : Nat) (tn2a : 1 ≤ tn2) (tn2b : tn2 ≤ 6) (tn2e : n2 = nI tn2) (c_6 : (0 : Int32) ≤ n3 ∧ n3 ≤ 4) (tn3 : Nat) (tn3a : 0 ≤ tn3) (tn3b : tn3 ≤ 4) (tn3e : n3 = nI tn3) (j1 : Nat) (b1 : Int32) (b2 : Int32) (b3 : Int32) (b4 : Int32) (k53 : Nat) (hj53 : j1 ≤ 7) (hk53 : 7 < j1 + (k53 + 1)) (c_7 : 6 < nI (j1 + tn2)) (n_8 : 6 < (j1 + tn2)) (c_10 : ¬ nI tn3 = 0) (n_11 : tn3 ≠ 0) (c_13 : ¬ nI tn3 = 1) (n_14 : tn3 ≠ 1) (c_16 : ¬ nI tn3 = 2) (n_17 : tn3 ≠ 2) (c_19 : nI tn3 = 3) : tn3 = 3 := by
  exact (nI_eq (a := tn3) (b := 3) (by omega) (by omega)).mp c_19
theorem lf_X12_body_30 (h : Nat) (q : Nat → Nat) (im : Nat → Int32) (m_phosphors : Nat → Int32) (n1 : Int32) (n2 : Int32) (n3 : Int32) (c_2 : (1 : Int32) ≤ n1 ∧ n1 ≤ 12) (tn1 : Nat) (tn1a : 1 ≤ tn1) (tn1b : tn1 ≤ 12) (tn1e : n1 = nI tn1) (c_4 : (1 : Int32) ≤ n2 ∧ n2 ≤ 6) (tn2 : Nat) (tn2a : 1 ≤ tn2) (tn2b : tn2 ≤ 6) (tn2e : n2 = nI tn2) (c_6 : (0 : Int32) ≤ n3 ∧ n3 ≤ 4) (tn3 : Nat) (tn3a : 0 ≤ tn3) (tn3b : tn3 ≤ 4) (tn3e : n3 = nI tn3) (j1 : Nat) (b1 : Int32) (b2 : Int32) (b3 : Int32) (b4 : Int32) (k53 : Nat) (hj53 : j1 ≤ 7) (hk53 : 7 < j1 + (k53 + 1)) (c_7 : 6 < nI (j1 + tn2)) (n_8 : 6 < (j1 + tn2)) (c_10 : ¬ nI tn3 = 0) (n_11 : tn3 ≠ 0) (c_13 : ¬ nI tn3 = 1) (n_14 : tn3 ≠ 1) (c_16 : nI tn3 = 2) : tn3 = 2 := by
  exact (nI_eq (a := tn3) (b := 2) (by omega) (by omega)).mp c_16
theorem lf_X12_body_32 (h : Nat) (q : Nat → Nat) (im : Nat → Int32) (m_phosphors : Nat → Int32) (n1 : Int32) (n2 : Int32) (n3 : Int32) (c_2 : (1 : Int32) ≤ n1 ∧ n1 ≤ 12) (tn1 : Nat) (tn1a : 1 ≤ tn1) (tn1b : tn1 ≤ 12) (tn1e : n1 = nI tn1) (c_4 : (1 : Int32) ≤ n2 ∧ n2 ≤ 6) (tn2 : Nat) (tn2a : 1 ≤ tn2) (tn2b : tn2 ≤ 6) (tn2e : n2 = nI tn2) (c_6 : (0 : Int32) ≤ n3 ∧ n3 ≤ 4) (tn3 : Nat) (tn3a : 0 ≤ tn3) (tn3b : tn3 ≤ 4) (tn3e : n3 = nI tn3) (j1 : Nat) (b1 : Int32) (b2 : Int32) (b3 : Int32) (b4 : Int32) (k53 : Nat) (hj53 : j1 ≤ 7) (hk53 : 7 < j1 + (k53 + 1)) (c_7 : 6 < nI (j1 + tn2)) (n_8 : 6 < (j1 + tn2)) (c_10 : ¬ nI tn3 = 0) (n_11 : tn3 ≠ 0) (c_13 : nI tn3 = 1) : tn3 = 1 := by
  exact (nI_eq (a := tn3) (b := 1) (by omega) (by omega)).mp c_13
theorem lf_X12_body_34 (h : Nat) (q : Nat → Nat) (im : Nat → Int32) (m_phosphors : Nat → Int32) (n1 : Int32) (n2 : Int32) (n3 : Int32) (c_2 : (1 : Int32) ≤ n1 ∧ n1 ≤ 12) (tn1 : Nat) (tn1a : 1 ≤ tn1) (tn1b : tn1 ≤ 12) (tn1e : n1 = nI tn1) (c_4 : (1 : Int32) ≤ n2 ∧ n2 ≤ 6) (tn2 : Nat) (tn2a : 1 ≤ tn2) (tn2b : tn2 ≤ 6) (tn2e : n2 = nI tn2) (c_6 : (0 : Int32) ≤ n3 ∧ n3 ≤ 4) (tn3 : Nat) (tn3a : 0 ≤ tn3) (tn3b : tn3 ≤ 4) (tn3e : n3 = nI tn3) (j1 : Nat) (b1 : Int32) (b2 : Int32) (b3 : Int32) (b4 : Int32) (k53 : Nat) (hj53 : j1 ≤ 7) (hk53 : 7 < j1 + (k53 + 1)) (c_7 : 6 < nI (j1 + tn2)) (n_8 : 6 < (j1 + tn2)) (c_10 : nI tn3 = 0) : tn3 = 0 := by
  exact (nI_eq (a := tn3) (b := 0) (by omega) (by omega)).mp c_10
theorem lf_X12_body_36 (h : Nat) (q : Nat → Nat) (im : Nat → Int32) (m_phosphors : Nat → Int32) (n1 : Int32) (n2 : Int32) (n3 : Int32) (c_2 : (1 : Int32) ≤ n1 ∧ n1 ≤ 12) (tn1 : Nat) (tn1a : 1 ≤ tn1) (tn1b : tn1 ≤ 12) (tn1e : n1 = nI tn1) (c_4 : (1 : Int32) ≤ n2 ∧ n2 ≤ 6) (tn2 : Nat) (tn2a : 1 ≤ tn2) (tn2b : tn2 ≤ 6) (tn2e : n2 = nI tn2) (c_6 : (0 : Int32) ≤ n3 ∧ n3 ≤ 4) (tn3 : Nat) (tn3a : 0 ≤ tn3) (tn3b : tn3 ≤ 4) (tn3e : n3 = nI tn3) (j1 : Nat) (b1 : Int32) (b2 : Int32) (b3 : Int32) (b4 : Int32) (k53 : Nat) (hj53 : j1 ≤ 7) (hk53 : 7 < j1 + (k53 + 1)) (c_7 : ¬ 6 < nI (j1 + tn2)) : (j1 + tn2) ≤ 6 := by
  exact Nat.le_of_not_lt (fun q => c_7 ((nI_ltI (a := 6) (b := (j1 + tn2)) (by omega) (by omega)).mpr q))
theorem lf_X12_body_39 (h : Nat) (q : Nat → Nat) (im : Nat → Int32) (m_phosphors : Nat → Int32) (n1 : Int32) (n2 : Int32) (n3 : Int32) (c_2 : (1 : Int32) ≤ n1 ∧ n1 ≤ 12) (tn1 : Nat) (tn1a : 1 ≤ tn1) (tn1b : tn1 ≤ 12) (tn1e : n1 = nI tn1) (c_4 : (1 : Int32) ≤ n2 ∧ n2 ≤ 6) (tn2 : Nat) (tn2a : 1 ≤ tn2) (tn2b : tn2 ≤ 6) (tn2e : n2 = nI tn2) (c_6 : (0 : Int32) ≤ n3 ∧ n3 ≤ 4) (tn3 : Nat) (tn3a : 0 ≤ tn3) (tn3b : tn3 ≤ 4) (tn3e : n3 = nI tn3) (j1 : Nat) (b1 : Int32) (b2 : Int32) (b3 : Int32) (b4 : Int32) (k53 : Nat) (hj53 : j1 ≤ 7) (hk53 : 7 < j1 + (k53 + 1)) (c_7 : ¬ 6 < nI (j1 + tn2)) (n_35 : (j1 + tn2) ≤ 6) (j2 : Nat) (c1 : Int32) (c2 : Int32) (c3 : Int32) (c4 : Int32) (k65 : Nat) (hj65 : j2 ≤ 13) (hk65 : 13 < j2 + (k65 + 1)) (c_37 : 12 < nI (j2 + tn1)) : 12 < (j2 + tn1) := by
  exact (nI_ltI (a := 12) (b := (j2 + tn1)) (by omega) (by omega)).mp c_37
theorem lf_X12_body_41 (h : Nat) (q : Nat → Nat) (im : Nat → Int32) (m_phosphors : Nat → Int32) (n1 : Int32) (n2 : Int32) (n3 : Int32) (c_2 : (1 : Int32) ≤ n1 ∧ n1 ≤ 12) (tn1 : Nat) (tn1a : 1 ≤ tn1) (tn1b : tn1 ≤ 12) (tn1e : n1 = nI tn1) (c_4 : (1 : Int32) ≤ n2 ∧ n2 ≤ 6) (tn2 : Nat) (tn2a : 1 ≤ tn2) (tn2b : tn2 ≤ 6) (tn2e : n2 = nI tn2) (c_6 : (0 : Int32) ≤ n3 ∧ n3 ≤ 4) (tn3 : Nat) (tn3a : 0 ≤ tn3) (tn3b : tn3 ≤ 4) (tn3e : n3 = nI tn3) (j1 : Nat) (b1 : Int32) (b2 : Int32) (b3 : Int32) (b4 : Int32) (k53 : Nat) (hj53 : j1 ≤ 7) (hk53 : 7 < j1 + (k53 + 1)) (c_7 : ¬ 6 < nI (j1 + tn2)) (n_35 : (j1 + tn2) ≤ 6) (j2 : Nat) (c1 : Int32) (c2 : Int32) (c3 : Int32) (c4 : Int32) (k65 : Nat) (hj65 : j2 ≤ 13) (hk65 : 13 < j2 + (k65 + 1)) (c_37 : ¬ 12 < nI (j2 + tn1)) : (j2 + tn1) ≤ 12 := by
  exact Nat.le_of_not_lt (fun q => c_37 ((nI_ltI (a := 12) (b := (j2 + tn1)) (by omega) (by omega)).mpr q))
theorem lf_X12_body_42 (h : Nat) (q : Nat → Nat) (im : Nat → Int32) (m_phosphors : Nat → Int32) (n1 : Int32) (n2 : Int32) (n3 : Int32) (c_2 : (1 : Int32) ≤ n1 ∧ n1 ≤ 12) (tn1 : Nat) (tn1a : 1 ≤ tn1) (tn1b : tn1 ≤ 12) (tn1e : n1 = nI tn1) (c_4 : (1 : Int32) ≤ n2 ∧ n2 ≤ 6) (tn2 : Nat) (tn2a : 1 ≤ tn2) (tn2b : tn2 ≤ 6) (tn2e : n2 = nI tn2) (c_6 : (0 : Int32) ≤ n3 ∧ n3 ≤ 4) (tn3 : Nat) (tn3a : 0 ≤ tn3) (tn3b : tn3 ≤ 4) (tn3e : n3 = nI tn3) (j1 : Nat) (b1 : Int32) (b2 : Int32) (b3 : Int32) (b4 : Int32) (k53 : Nat) (hj53 : j1 ≤ 7) (hk53 : 7 < j1 + (k53 + 1)) (c_7 : ¬ 6 < nI (j1 + tn2)) (n_35 : (j1 + tn2) ≤ 6) (j2 : Nat) (c1 : Int32) (c2 : Int32) (c3 : Int32) (c4 : Int32) (k65 : Nat) (hj65 : j2 ≤ 13) (hk65 : 13 < j2 + (k65 + 1)) (c_37 : ¬ 12 < nI (j2 + tn1)) (n_40 : (j2 + tn1) ≤ 12) : j2 + tn1 ≤ 12 := by
  first | assumption | omega | decide | rfl
theorem lf_X12_body_43 (h : Nat) (q : Nat → Nat) (im : Nat → Int32) (m_phosphors : Nat → Int32) (n1 : Int32) (n2 : Int32) (n3 : Int32) (c_2 : (1 : Int32) ≤ n1 ∧ n1 ≤ 12) (tn1 : Nat) (tn1a : 1 ≤ tn1) (tn1b : tn1 ≤ 12) (tn1e : n1 = nI tn1) (c_4 : (1 : Int32) ≤ n2 ∧ n2 ≤ 6) (tn2 : Nat) (tn2a : 1 ≤ tn2) (tn2b : tn2 ≤ 6) (tn2e : n2 = nI tn2) (c_6 : (0 : Int32) ≤ n3 ∧ n3 ≤ 4) (tn3 : Nat) (tn3a : 0 ≤ tn3) (tn3b : tn3 ≤ 4) (tn3e : n3 = nI tn3) (j1 : Nat) (b1 : Int32) (b2 : Int32) (b3 : Int32) (b4 : Int32) (k53 : Nat) (hj53 : j1 ≤ 7) (hk53 : 7 < j1 + (k53 + 1)) (c_7 : ¬ 6 < nI (j1 + tn2)) (n_35 : (j1 + tn2) ≤ 6) (j2 : Nat) (c1 : Int32) (c2 : Int32) (c3 : Int32) (c4 : Int32) (k65 : Nat) (hj65 : j2 ≤ 13) (hk65 : 13 < j2 + (k65 + 1)) (c_37 : ¬ 12 < nI (j2 + tn1)) (n_40 : (j2 + tn1) ≤ 12) : j1 + tn2 ≤ 6 := by
  first | assumption | omega | decide | rfl
set_option maxHeartbeats 4000000 in
set_option maxRecDepth 100000 in
theorem c_X12_body (l : Launch) (D : va_G) (cI cB cZ cJ : ClassId) (tx : List (ClassId × FieldType)) (h : Nat) (q : Nat → Nat) (im : Nat → Int32) (m_phosphors : Nat → Int32) (n1 : Int32) (n2 : Int32) (n3 : Int32) : RdI l D cI cB cZ cJ tx yX12_body cX12_body 11 (some .int) 1 [.ref h, .int n1, .int n2, .int n3] [(h, .inr (12, mG q im)), (q 74, .inl (cI, 72, .inl m_phosphors))] (fun r => True) := by
  refine rdi_of2 (by decide) (Nat.le_of_ble_eq_true rfl) ?_
  intro p e s m below meth c A ls H locs hC hK hP hD hA hS hl
  obtain ⟨hx, hb, hr, hml, hown, hts, hlocks, hin⟩ := hC
  have hown : s.vm.findClass RX12 = some m.cls := hown
  have hl : lv_has ls 11 [(0, .ref h), (1, .int n1), (2, .int n2), (3, .int n3)] := hl
  refine lv_iload_n hx hb dX12_body_0 rfl (lv_at hl 1 rfl) ?_
  refine lv_i2l (v := n1.toInt64) hx hb dX12_body_1 rfl ?_
  refine lv_lconst (v := 1) hx hb dX12_body_2 (by decide) ?_
  refine lv_ldc2 (v := 12) hx hb hown (hts _ k_2016) dX12_body_3 ?_
  refine eRi (va_runS (As := [.long n1.toInt64, .long 1, .long 12]) (rest := []) ⟨hx, hb, hml, hown, hts⟩ (c_X12_isIn l D cI cB cZ cJ tx n1.toInt64 1 12 H.size) (zS hts k_1602 v_X12_isIn ⟨Nat.le_of_ble_eq_true rfl, Nat.le_of_ble_eq_true rfl⟩) (px0 hK) rfl rfl hl.1 rfl (lv_room (Nat.le_of_ble_eq_true rfl)) dX12_body_6 ⟨Nat.le_of_ble_eq_true rfl, Nat.le_of_ble_eq_true rfl⟩) hP hS hA (fun r_1 H locs wr_1 hP hS => ?_)
  have wr_1 : r_1 = bi ((1 : Int32) ≤ n1 ∧ n1 ≤ 12) := isIn32 (lo := 1) (hi := 12) (by decide) (by decide) wr_1
  subst wr_1
  refine lv_bi_eq (tgt := 36) hx hb dX12_body_9 (by decide) (fun c_2 => ?_) (fun c_2 => ?_)
  · refine lv_iconst (v := (-1)) hx hb dX12_body_36 (by decide) ?_
    exact W.iret (v := (-1)) hx hb hr (fun tt9 ht hW => ⟨⟨((-1) : Int32), (), rfl, trivial, trivial⟩, hS.F ht⟩) hS.2.2 dX12_body_37 hlocks
  · obtain ⟨tn1, tn1a, tn1b, tn1e⟩ := of_rng 1 12 rfl rfl c_2
    subst tn1e
    refine lv_iload_n hx hb dX12_body_12 rfl (lv_at hl 2 rfl) ?_
    refine lv_i2l (v := n2.toInt64) hx hb dX12_body_13 rfl ?_
    refine lv_lconst (v := 1) hx hb dX12_body_14 (by decide) ?_
    refine lv_ldc2 (v := 6) hx hb hown (hts _ k_2017) dX12_body_15 ?_
    refine eRi (va_runS (As := [.long n2.toInt64, .long 1, .long 6]) (rest := []) ⟨hx, hb, hml, hown, hts⟩ (c_X12_isIn l D cI cB cZ cJ tx n2.toInt64 1 6 H.size) (zS hts k_1602 v_X12_isIn ⟨Nat.le_of_ble_eq_true rfl, Nat.le_of_ble_eq_true rfl⟩) (px0 hK) rfl rfl hl.1 rfl (lv_room (Nat.le_of_ble_eq_true rfl)) dX12_body_18 ⟨Nat.le_of_ble_eq_true rfl, Nat.le_of_ble_eq_true rfl⟩) hP hS hA (fun r_3 H locs wr_3 hP hS => ?_)
    have wr_3 : r_3 = bi ((1 : Int32) ≤ n2 ∧ n2 ≤ 6) := isIn32 (lo := 1) (hi := 6) (by decide) (by decide) wr_3
    subst wr_3
    refine lv_bi_eq (tgt := 36) hx hb dX12_body_21 (by decide) (fun c_4 => ?_) (fun c_4 => ?_)
    · refine lv_iconst (v := (-1)) hx hb dX12_body_36 (by decide) ?_
      exact W.iret (v := (-1)) hx hb hr (fun tt9 ht hW => ⟨⟨((-1) : Int32), (), rfl, trivial, trivial⟩, hS.F ht⟩) hS.2.2 dX12_body_37 hlocks
    · obtain ⟨tn2, tn2a, tn2b, tn2e⟩ := of_rng 1 6 rfl rfl c_4
      subst tn2e
      refine lv_iload_n hx hb dX12_body_24 rfl (lv_at hl 3 rfl) ?_
      refine lv_i2l (v := n3.toInt64) hx hb dX12_body_25 rfl ?_
      refine lv_lconst (v := 0) hx hb dX12_body_26 (by decide) ?_
      refine lv_ldc2 (v := 4) hx hb hown (hts _ k_1873) dX12_body_27 ?_
      refine eRi (va_runS (As := [.long n3.toInt64, .long 0, .long 4]) (rest := []) ⟨hx, hb, hml, hown, hts⟩ (c_X12_isIn l D cI cB cZ cJ tx n3.toInt64 0 4 H.size) (zS hts k_1602 v_X12_isIn ⟨Nat.le_of_ble_eq_true rfl, Nat.le_of_ble_eq_true rfl⟩) (px0 hK) rfl rfl hl.1 rfl (lv_room (Nat.le_of_ble_eq_true rfl)) dX12_body_30 ⟨Nat.le_of_ble_eq_true rfl, Nat.le_of_ble_eq_true rfl⟩) hP hS hA (fun r_5 H locs wr_5 hP hS => ?_)
      have wr_5 : r_5 = bi ((0 : Int32) ≤ n3 ∧ n3 ≤ 4) := isIn32 (lo := 0) (hi := 4) (by decide) (by decide) wr_5
      subst wr_5
      refine lv_bi_ne (tgt := 38) hx hb dX12_body_33 (by decide) (fun c_6 => ?_) (fun c_6 => ?_)
      · obtain ⟨tn3, tn3a, tn3b, tn3e⟩ := of_rng 0 4 rfl rfl c_6
        subst tn3e
        refine lv_iconst (v := (-1)) hx hb dX12_body_38 (by decide) ?_
        refine lv_istore (lv' := [(4, .int (-1)), (0, .ref h), (1, .int (nI tn1)), (2, .int (nI tn2)), (3, .int (nI tn3))]) hx hb dX12_body_39 hl (by decide) rfl (fun ls hl => ?_)
        refine lv_iconst (v := 0) hx hb dX12_body_41 (by decide) ?_
        refine lv_istore (lv' := [(5, .int 0), (4, .int (-1)), (0, .ref h), (1, .int (nI tn1)), (2, .int (nI tn2)), (3, .int (nI tn3))]) hx hb dX12_body_42 hl (by decide) rfl (fun ls hl => ?_)
        refine lv_iconst (v := 0) hx hb dX12_body_44 (by decide) ?_
        refine lv_istore (lv' := [(6, .int 0), (5, .int 0), (4, .int (-1)), (0, .ref h), (1, .int (nI tn1)), (2, .int (nI tn2)), (3, .int (nI tn3))]) hx hb dX12_body_45 hl (by decide) rfl (fun ls hl => ?_)
        refine lv_iconst (v := 0) hx hb dX12_body_47 (by decide) ?_
        refine lv_istore (lv' := [(7, .int 0), (6, .int 0), (5, .int 0), (4, .int (-1)), (0, .ref h), (1, .int (nI tn1)), (2, .int (nI tn2)), (3, .int (nI tn3))]) hx hb dX12_body_48 hl (by decide) rfl (fun ls hl => ?_)
        refine lv_iconst (v := 0) hx hb dX12_body_50 (by decide) ?_
        refine lv_istore (lv' := [(8, .int 0), (7, .int 0), (6, .int 0), (5, .int 0), (4, .int (-1)), (0, .ref h), (1, .int (nI tn1)), (2, .int (nI tn2)), (3, .int (nI tn3))]) hx hb dX12_body_51 hl (by decide) rfl (fun ls hl => ?_)
        have lp53 : ∀ (k53 : Nat) (j1 : Nat) (b1 : Int32) (b2 : Int32) (b3 : Int32) (b4 : Int32) (H : Heap) (locs : List Loc) (ls : Array Slot), j1 ≤ 7 → 7 < j1 + k53 → va_P D vwCl [(h, .inr (12, mG q im)), (q 74, .inl (cI, 72, .inl m_phosphors))] H → va_S A s.heap H locs → lv_has ls 11 [(8, .int (nI j1)), (7, .int b4), (6, .int b3), (5, .int b2), (4, .int b1), (0, .ref h), (1, .int (nI tn1)), (2, .int (nI tn2)), (3, .int (nI tn3))] → W p l e (rmX 1 0 0) s m ([.ref h, .int (nI tn1), .int (nI tn2), .int (nI tn3)] : List Value).toArray below meth c H locs 0 0 (MQ below (va_Qi (fun r (_ : Unit) => (fun r => True) r) (fun _ _ => True) A) ([.ref h, .int (nI tn1), .int (nI tn2), .int (nI tn3)] : List Value).toArray s 0 0 A) (F0 m 53 ls []) := by
          intro k53
          induction k53 with
          | zero =>
            intro j1 b1 b2 b3 b4 H locs ls hj53 hk53  hP hS hl
            exact absurd hk53 (by omega)
          | succ k53 ih53 =>
            intro j1 b1 b2 b3 b4 H locs ls hj53 hk53  hP hS hl
            refine lv_iload hx hb dX12_body_53 (lv_at hl 0 rfl) ?_
            refine lv_iload_n hx hb dX12_body_55 rfl (lv_at hl 7 rfl) ?_
            refine lv_iadd hx hb dX12_body_56 ?_
            refine lv_topv (y := nI (j1 + tn2)) (nI_add j1 tn2) ?_
            refine lv_bipush (v := 6) hx hb dX12_body_57 (by decide) ?_
            refine lv_icmp_gt (tgt := 137) hx hb dX12_body_59 (by decide) (fun c_7 => ?_) (fun c_7 => ?_)
            · have n_8 : 6 < (j1 + tn2) := (lf_X12_body_9 h q im m_phosphors (nI tn1) (nI tn2) (nI tn3) c_2 tn1 tn1a tn1b rfl c_4 tn2 tn2a tn2b rfl c_6 tn3 tn3a tn3b rfl j1 b1 b2 b3 b4 k53 hj53 hk53 c_7)
              refine lv_iload_n hx hb dX12_body_137 rfl (lv_at hl 8 rfl) ?_
              refine lv_if_ne (tgt := 146) hx hb dX12_body_138 (by decide) (fun c_10 => ?_) (fun c_10 => ?_)
              · have n_11 : tn3 ≠ 0 := (lf_X12_body_12 h q im m_phosphors (nI tn1) (nI tn2) (nI tn3) c_2 tn1 tn1a tn1b rfl c_4 tn2 tn2a tn2b rfl c_6 tn3 tn3a tn3b rfl j1 b1 b2 b3 b4 k53 hj53 hk53 c_7 n_8 c_10)
                refine lv_iload_n hx hb dX12_body_146 rfl (lv_at hl 8 rfl) ?_
                refine lv_iconst (v := 1) hx hb dX12_body_147 (by decide) ?_
                refine lv_icmp_ne (tgt := 156) hx hb dX12_body_148 (by decide) (fun c_13 => ?_) (fun c_13 => ?_)
                · have n_14 : tn3 ≠ 1 := (lf_X12_body_15 h q im m_phosphors (nI tn1) (nI tn2) (nI tn3) c_2 tn1 tn1a tn1b rfl c_4 tn2 tn2a tn2b rfl c_6 tn3 tn3a tn3b rfl j1 b1 b2 b3 b4 k53 hj53 hk53 c_7 n_8 c_10 n_11 c_13)
                  refine lv_iload_n hx hb dX12_body_156 rfl (lv_at hl 8 rfl) ?_
                  refine lv_iconst (v := 2) hx hb dX12_body_157 (by decide) ?_
                  refine lv_icmp_ne (tgt := 166) hx hb dX12_body_158 (by decide) (fun c_16 => ?_) (fun c_16 => ?_)
                  · have n_17 : tn3 ≠ 2 := (lf_X12_body_18 h q im m_phosphors (nI tn1) (nI tn2) (nI tn3) c_2 tn1 tn1a tn1b rfl c_4 tn2 tn2a tn2b rfl c_6 tn3 tn3a tn3b rfl j1 b1 b2 b3 b4 k53 hj53 hk53 c_7 n_8 c_10 n_11 c_13 n_14 c_16)
                    refine lv_iload_n hx hb dX12_body_166 rfl (lv_at hl 8 rfl) ?_
                    refine lv_iconst (v := 3) hx hb dX12_body_167 (by decide) ?_
                    refine lv_icmp_ne (tgt := 176) hx hb dX12_body_168 (by decide) (fun c_19 => ?_) (fun c_19 => ?_)
                    · have n_20 : tn3 ≠ 3 := (lf_X12_body_21 h q im m_phosphors (nI tn1) (nI tn2) (nI tn3) c_2 tn1 tn1a tn1b rfl c_4 tn2 tn2a tn2b rfl c_6 tn3 tn3a tn3b rfl j1 b1 b2 b3 b4 k53 hj53 hk53 c_7 n_8 c_10 n_11 c_13 n_14 c_16 n_17 c_19)
                      refine lv_bipush (v := 12) hx hb dX12_body_176 (by decide) ?_
                      refine lv_iload_n hx hb dX12_body_178 rfl (lv_at hl 6 rfl) ?_
                      refine lv_isub hx hb dX12_body_179 ?_
                      refine lv_topi (fun x_22 ex_22 => ?_)
                      refine lv_iconst (v := 1) hx hb dX12_body_180 (by decide) ?_
                      refine lv_iadd hx hb dX12_body_181 ?_
                      refine lv_topi (fun x_23 ex_23 => ?_)
                      refine lv_bipush (v := 6) hx hb dX12_body_182 (by decide) ?_
                      refine lv_iload_n hx hb dX12_body_184 rfl (lv_at hl 7 rfl) ?_
                      refine lv_isub hx hb dX12_body_185 ?_
                      refine lv_topi (fun x_24 ex_24 => ?_)
                      refine lv_iconst (v := 1) hx hb dX12_body_186 (by decide) ?_
                      refine lv_iadd hx hb dX12_body_187 ?_
                      refine lv_topi (fun x_25 ex_25 => ?_)
                      refine lv_imul hx hb dX12_body_188 ?_
                      refine lv_topi (fun x_26 ex_26 => ?_)
                      exact W.iret (v := x_26) hx hb hr (fun tt9 ht hW => ⟨⟨(x_26 : Int32), (), rfl, trivial, trivial⟩, hS.F ht⟩) hS.2.2 dX12_body_189 hlocks
                    · have n_27 : tn3 = 3 := (lf_X12_body_28 h q im m_phosphors (nI tn1) (nI tn2) (nI tn3) c_2 tn1 tn1a tn1b rfl c_4 tn2 tn2a tn2b rfl c_6 tn3 tn3a tn3b rfl j1 b1 b2 b3 b4 k53 hj53 hk53 c_7 n_8 c_10 n_11 c_13 n_14 c_16 n_17 c_19)
                      refine lv_iload hx hb dX12_body_171 (lv_at hl 1 rfl) ?_
                      refine lv_goto (tgt := 189) hx hb dX12_body_173 (by decide) ?_
                      exact W.iret (v := b4) hx hb hr (fun tt9 ht hW => ⟨⟨(b4 : Int32), (), rfl, trivial, trivial⟩, hS.F ht⟩) hS.2.2 dX12_body_189 hlocks
                  · have n_29 : tn3 = 2 := (lf_X12_body_30 h q im m_phosphors (nI tn1) (nI tn2) (nI tn3) c_2 tn1 tn1a tn1b rfl c_4 tn2 tn2a tn2b rfl c_6 tn3 tn3a tn3b rfl j1 b1 b2 b3 b4 k53 hj53 hk53 c_7 n_8 c_10 n_11 c_13 n_14 c_16)
                    refine lv_iload hx hb dX12_body_161 (lv_at hl 4 rfl) ?_
                    refine lv_goto (tgt := 189) hx hb dX12_body_163 (by decide) ?_
                    exact W.iret (v := b1) hx hb hr (fun tt9 ht hW => ⟨⟨(b1 : Int32), (), rfl, trivial, trivial⟩, hS.F ht⟩) hS.2.2 dX12_body_189 hlocks
                · have n_31 : tn3 = 1 := (lf_X12_body_32 h q im m_phosphors (nI tn1) (nI tn2) (nI tn3) c_2 tn1 tn1a tn1b rfl c_4 tn2 tn2a tn2b rfl c_6 tn3 tn3a tn3b rfl j1 b1 b2 b3 b4 k53 hj53 hk53 c_7 n_8 c_10 n_11 c_13)
                  refine lv_iload hx hb dX12_body_151 (lv_at hl 2 rfl) ?_
                  refine lv_goto (tgt := 189) hx hb dX12_body_153 (by decide) ?_
                  exact W.iret (v := b3) hx hb hr (fun tt9 ht hW => ⟨⟨(b3 : Int32), (), rfl, trivial, trivial⟩, hS.F ht⟩) hS.2.2 dX12_body_189 hlocks
              · have n_33 : tn3 = 0 := (lf_X12_body_34 h q im m_phosphors (nI tn1) (nI tn2) (nI tn3) c_2 tn1 tn1a tn1b rfl c_4 tn2 tn2a tn2b rfl c_6 tn3 tn3a tn3b rfl j1 b1 b2 b3 b4 k53 hj53 hk53 c_7 n_8 c_10)
                refine lv_iload hx hb dX12_body_141 (lv_at hl 3 rfl) ?_
                refine lv_goto (tgt := 189) hx hb dX12_body_143 (by decide) ?_
                exact W.iret (v := b2) hx hb hr (fun tt9 ht hW => ⟨⟨(b2 : Int32), (), rfl, trivial, trivial⟩, hS.F ht⟩) hS.2.2 dX12_body_189 hlocks
            · have n_35 : (j1 + tn2) ≤ 6 := (lf_X12_body_36 h q im m_phosphors (nI tn1) (nI tn2) (nI tn3) c_2 tn1 tn1a tn1b rfl c_4 tn2 tn2a tn2b rfl c_6 tn3 tn3a tn3b rfl j1 b1 b2 b3 b4 k53 hj53 hk53 c_7)
              refine lv_iconst (v := 0) hx hb dX12_body_62 (by decide) ?_
              refine lv_istore (lv' := [(9, .int 0), (8, .int (nI j1)), (7, .int b4), (6, .int b3), (5, .int b2), (4, .int b1), (0, .ref h), (1, .int (nI tn1)), (2, .int (nI tn2)), (3, .int (nI tn3))]) hx hb dX12_body_63 hl (by decide) rfl (fun ls hl => ?_)
              have lp65 : ∀ (k65 : Nat) (j2 : Nat) (c1 : Int32) (c2 : Int32) (c3 : Int32) (c4 : Int32) (H : Heap) (locs : List Loc) (ls : Array Slot), j2 ≤ 13 → 13 < j2 + k65 → va_P D vwCl [(h, .inr (12, mG q im)), (q 74, .inl (cI, 72, .inl m_phosphors))] H → va_S A s.heap H locs → lv_has ls 11 [(9, .int (nI j2)), (8, .int (nI j1)), (7, .int c4), (6, .int c3), (5, .int c2), (4, .int c1), (0, .ref h), (1, .int (nI tn1)), (2, .int (nI tn2)), (3, .int (nI tn3))] → W p l e (rmX 1 0 0) s m ([.ref h, .int (nI tn1), .int (nI tn2), .int (nI tn3)] : List Value).toArray below meth c H locs 0 0 (MQ below (va_Qi (fun r (_ : Unit) => (fun r => True) r) (fun _ _ => True) A) ([.ref h, .int (nI tn1), .int (nI tn2), .int (nI tn3)] : List Value).toArray s 0 0 A) (F0 m 65 ls []) := by
                intro k65
                induction k65 with
                | zero =>
                  intro j2 c1 c2 c3 c4 H locs ls hj65 hk65  hP hS hl
                  exact absurd hk65 (by omega)
                | succ k65 ih65 =>
                  intro j2 c1 c2 c3 c4 H locs ls hj65 hk65  hP hS hl
                  refine lv_iload hx hb dX12_body_65 (lv_at hl 0 rfl) ?_
                  refine lv_iload_n hx hb dX12_body_67 rfl (lv_at hl 7 rfl) ?_
                  refine lv_iadd hx hb dX12_body_68 ?_
                  refine lv_topv (y := nI (j2 + tn1)) (nI_add j2 tn1) ?_
                  refine lv_bipush (v := 12) hx hb dX12_body_69 (by decide) ?_
                  refine lv_icmp_gt (tgt := 131) hx hb dX12_body_71 (by decide) (fun c_37 => ?_) (fun c_37 => ?_)
                  · have n_38 : 12 < (j2 + tn1) := (lf_X12_body_39 h q im m_phosphors (nI tn1) (nI tn2) (nI tn3) c_2 tn1 tn1a tn1b rfl c_4 tn2 tn2a tn2b rfl c_6 tn3 tn3a tn3b rfl j1 b1 b2 b3 b4 k53 hj53 hk53 c_7 n_35 j2 c1 c2 c3 c4 k65 hj65 hk65 c_37)
                    refine lv_iinc (v := nI (j1 + 1)) (lv' := [(8, .int (nI (j1 + 1))), (9, .int (nI j2)), (7, .int c4), (6, .int c3), (5, .int c2), (4, .int c1), (0, .ref h), (1, .int (nI tn1)), (2, .int (nI tn2)), (3, .int (nI tn3))]) hx hb dX12_body_131 hl (k := 1) rfl (nI_1 j1) (by decide) rfl (fun ls hl => ?_)
                    refine lv_goto (tgt := 53) hx hb dX12_body_134 (by decide) ?_
                    exact ih53 (j1 + 1) c1 c2 c3 c4 H locs ls (by omega) (by omega)  (hP.sub [0, 1] rfl)  hS (lv_sub hl [0, 2, 3, 4, 5, 6, 7, 8, 9] rfl)
                  · have n_40 : (j2 + tn1) ≤ 12 := (lf_X12_body_41 h q im m_phosphors (nI tn1) (nI tn2) (nI tn3) c_2 tn1 tn1a tn1b rfl c_4 tn2 tn2a tn2b rfl c_6 tn3 tn3a tn3b rfl j1 b1 b2 b3 b4 k53 hj53 hk53 c_7 n_35 j2 c1 c2 c3 c4 k65 hj65 hk65 c_37)
                    refine lv_aload_n hx hb dX12_body_74 rfl (lv_at hl 6 rfl) ?_
                    refine lv_iload hx hb dX12_body_75 (lv_at hl 0 rfl) ?_
                    refine lv_iload hx hb dX12_body_77 (lv_at hl 1 rfl) ?_
                    refine lv_iload_n hx hb dX12_body_79 rfl (lv_at hl 7 rfl) ?_
                    refine lv_iload_n hx hb dX12_body_80 rfl (lv_at hl 8 rfl) ?_
                    refine eRi (va_runV (As := [.int (nI j2), .int (nI j1), .int (nI tn1), .int (nI tn2)]) (rest := []) ⟨hx, hb, hml, hown, hts⟩ (c_X12_muchAt l D cI cB cZ cJ tx h q im m_phosphors j2 j1 tn1 tn2 (lf_X12_body_42 h q im m_phosphors (nI tn1) (nI tn2) (nI tn3) c_2 tn1 tn1a tn1b rfl c_4 tn2 tn2a tn2b rfl c_6 tn3 tn3a tn3b rfl j1 b1 b2 b3 b4 k53 hj53 hk53 c_7 n_35 j2 c1 c2 c3 c4 k65 hj65 hk65 c_37 n_40) (lf_X12_body_43 h q im m_phosphors (nI tn1) (nI tn2) (nI tn3) c_2 tn1 tn1a tn1b rfl c_4 tn2 tn2a tn2b rfl c_6 tn3 tn3a tn3b rfl j1 b1 b2 b3 b4 k53 hj53 hk53 c_7 n_35 j2 c1 c2 c3 c4 k65 hj65 hk65 c_37 n_40) H.size) (zV hts k_2018 v_X12_muchAt ⟨Nat.le_of_ble_eq_true rfl, Nat.le_of_ble_eq_true rfl⟩) (pV (pxS hK hP hD [0, 1] (by decide) rfl) hK hP 0 rfl rfl) rfl rfl hl.1 rfl (lv_room (Nat.le_of_ble_eq_true rfl)) dX12_body_81 ⟨Nat.le_of_ble_eq_true rfl, Nat.le_of_ble_eq_true rfl⟩) hP hS hA (fun r_44 H locs wr_44 hP hS => ?_)
                    refine lv_istore (lv' := [(10, .int r_44), (9, .int (nI j2)), (8, .int (nI j1)), (7, .int c4), (6, .int c3), (5, .int c2), (4, .int c1), (0, .ref h), (1, .int (nI tn1)), (2, .int (nI tn2)), (3, .int (nI tn3))]) hx hb dX12_body_84 hl (by decide) rfl (fun ls hl => ?_)
                    refine lv_iload hx hb dX12_body_86 (lv_at hl 0 rfl) ?_
                    refine lv_iload hx hb dX12_body_88 (lv_at hl 6 rfl) ?_
                    refine lv_icmp_le (tgt := 108) hx hb dX12_body_90 (by decide) (fun c_45 => ?_) (fun c_45 => ?_)
                    · refine lv_iload hx hb dX12_body_108 (lv_at hl 3 rfl) ?_
                      refine lv_iload hx hb dX12_body_110 (lv_at hl 0 rfl) ?_
                      refine lv_iload hx hb dX12_body_112 (lv_at hl 6 rfl) ?_
                      refine lv_icmp_ne (tgt := 121) hx hb dX12_body_114 (by decide) (fun c_46 => ?_) (fun c_46 => ?_)
                      · refine lv_iconst (v := 0) hx hb dX12_body_121 (by decide) ?_
                        refine lv_iadd hx hb dX12_body_122 ?_
                        refine lv_topi (fun x_47 ex_47 => ?_)
                        refine lv_istore (lv' := [(7, .int x_47), (10, .int r_44), (9, .int (nI j2)), (8, .int (nI j1)), (6, .int c3), (5, .int c2), (4, .int c1), (0, .ref h), (1, .int (nI tn1)), (2, .int (nI tn2)), (3, .int (nI tn3))]) hx hb dX12_body_123 hl (by decide) rfl (fun ls hl => ?_)
                        refine lv_iinc (v := nI (j2 + 1)) (lv' := [(9, .int (nI (j2 + 1))), (7, .int x_47), (10, .int r_44), (8, .int (nI j1)), (6, .int c3), (5, .int c2), (4, .int c1), (0, .ref h), (1, .int (nI tn1)), (2, .int (nI tn2)), (3, .int (nI tn3))]) hx hb dX12_body_125 hl (k := 2) rfl (nI_1 j2) (by decide) rfl (fun ls hl => ?_)
                        refine lv_goto (tgt := 65) hx hb dX12_body_128 (by decide) ?_
                        exact ih65 (j2 + 1) c1 c2 c3 x_47 H locs ls (by omega) (by omega)  (hP.sub [0, 1] rfl)  hS (lv_sub hl [0, 3, 1, 4, 5, 6, 7, 8, 9, 10] rfl)
                      · refine lv_iconst (v := 1) hx hb dX12_body_117 (by decide) ?_
                        refine lv_goto (tgt := 122) hx hb dX12_body_118 (by decide) ?_
                        refine lv_iadd hx hb dX12_body_122 ?_
                        refine lv_topi (fun x_48 ex_48 => ?_)
                        refine lv_istore (lv' := [(7, .int x_48), (10, .int r_44), (9, .int (nI j2)), (8, .int (nI j1)), (6, .int c3), (5, .int c2), (4, .int c1), (0, .ref h), (1, .int (nI tn1)), (2, .int (nI tn2)), (3, .int (nI tn3))]) hx hb dX12_body_123 hl (by decide) rfl (fun ls hl => ?_)
                        refine lv_iinc (v := nI (j2 + 1)) (lv' := [(9, .int (nI (j2 + 1))), (7, .int x_48), (10, .int r_44), (8, .int (nI j1)), (6, .int c3), (5, .int c2), (4, .int c1), (0, .ref h), (1, .int (nI tn1)), (2, .int (nI tn2)), (3, .int (nI tn3))]) hx hb dX12_body_125 hl (k := 2) rfl (nI_1 j2) (by decide) rfl (fun ls hl => ?_)
                        refine lv_goto (tgt := 65) hx hb dX12_body_128 (by decide) ?_
                        exact ih65 (j2 + 1) c1 c2 c3 x_48 H locs ls (by omega) (by omega)  (hP.sub [0, 1] rfl)  hS (lv_sub hl [0, 3, 1, 4, 5, 6, 7, 8, 9, 10] rfl)
                    · refine lv_iload hx hb dX12_body_93 (lv_at hl 0 rfl) ?_
                      refine lv_istore (lv' := [(4, .int r_44), (10, .int r_44), (9, .int (nI j2)), (8, .int (nI j1)), (7, .int c4), (6, .int c3), (5, .int c2), (0, .ref h), (1, .int (nI tn1)), (2, .int (nI tn2)), (3, .int (nI tn3))]) hx hb dX12_body_95 hl (by decide) rfl (fun ls hl => ?_)
                      refine lv_iload hx hb dX12_body_97 (lv_at hl 2 rfl) ?_
                      refine lv_istore (lv' := [(5, .int (nI j2)), (4, .int r_44), (10, .int r_44), (9, .int (nI j2)), (8, .int (nI j1)), (7, .int c4), (6, .int c3), (0, .ref h), (1, .int (nI tn1)), (2, .int (nI tn2)), (3, .int (nI tn3))]) hx hb dX12_body_99 hl (by decide) rfl (fun ls hl => ?_)
                      refine lv_iload hx hb dX12_body_101 (lv_at hl 4 rfl) ?_
                      refine lv_istore (lv' := [(6, .int (nI j1)), (5, .int (nI j2)), (4, .int r_44), (10, .int r_44), (9, .int (nI j2)), (8, .int (nI j1)), (7, .int c4), (0, .ref h), (1, .int (nI tn1)), (2, .int (nI tn2)), (3, .int (nI tn3))]) hx hb dX12_body_103 hl (by decide) rfl (fun ls hl => ?_)
                      refine lv_iconst (v := 0) hx hb dX12_body_105 (by decide) ?_
                      refine lv_istore (lv' := [(7, .int 0), (6, .int (nI j1)), (5, .int (nI j2)), (4, .int r_44), (10, .int r_44), (9, .int (nI j2)), (8, .int (nI j1)), (0, .ref h), (1, .int (nI tn1)), (2, .int (nI tn2)), (3, .int (nI tn3))]) hx hb dX12_body_106 hl (by decide) rfl (fun ls hl => ?_)
                      refine lv_iload hx hb dX12_body_108 (lv_at hl 0 rfl) ?_
                      refine lv_iload hx hb dX12_body_110 (lv_at hl 4 rfl) ?_
                      refine lv_iload hx hb dX12_body_112 (lv_at hl 3 rfl) ?_
                      refine lv_icmp_ne (tgt := 121) hx hb dX12_body_114 (by decide) (fun c_49 => ?_) (fun c_49 => ?_)
                      · refine lv_iconst (v := 0) hx hb dX12_body_121 (by decide) ?_
                        refine lv_iadd hx hb dX12_body_122 ?_
                        refine lv_topv (y := 0) (by decide) ?_
                        refine lv_istore (lv' := [(7, .int 0), (6, .int (nI j1)), (5, .int (nI j2)), (4, .int r_44), (10, .int r_44), (9, .int (nI j2)), (8, .int (nI j1)), (0, .ref h), (1, .int (nI tn1)), (2, .int (nI tn2)), (3, .int (nI tn3))]) hx hb dX12_body_123 hl (by decide) rfl (fun ls hl => ?_)
                        refine lv_iinc (v := nI (j2 + 1)) (lv' := [(9, .int (nI (j2 + 1))), (7, .int 0), (6, .int (nI j1)), (5, .int (nI j2)), (4, .int r_44), (10, .int r_44), (8, .int (nI j1)), (0, .ref h), (1, .int (nI tn1)), (2, .int (nI tn2)), (3, .int (nI tn3))]) hx hb dX12_body_125 hl (k := 5) rfl (nI_1 j2) (by decide) rfl (fun ls hl => ?_)
                        refine lv_goto (tgt := 65) hx hb dX12_body_128 (by decide) ?_
                        exact ih65 (j2 + 1) r_44 (nI j2) (nI j1) 0 H locs ls (by omega) (by omega)  (hP.sub [0, 1] rfl)  hS (lv_sub hl [0, 6, 1, 2, 3, 4, 7, 8, 9, 10] rfl)
                      · refine lv_iconst (v := 1) hx hb dX12_body_117 (by decide) ?_
                        refine lv_goto (tgt := 122) hx hb dX12_body_118 (by decide) ?_
                        refine lv_iadd hx hb dX12_body_122 ?_
                        refine lv_topv (y := 1) (by decide) ?_
                        refine lv_istore (lv' := [(7, .int 1), (6, .int (nI j1)), (5, .int (nI j2)), (4, .int r_44), (10, .int r_44), (9, .int (nI j2)), (8, .int (nI j1)), (0, .ref h), (1, .int (nI tn1)), (2, .int (nI tn2)), (3, .int (nI tn3))]) hx hb dX12_body_123 hl (by decide) rfl (fun ls hl => ?_)
                        refine lv_iinc (v := nI (j2 + 1)) (lv' := [(9, .int (nI (j2 + 1))), (7, .int 1), (6, .int (nI j1)), (5, .int (nI j2)), (4, .int r_44), (10, .int r_44), (8, .int (nI j1)), (0, .ref h), (1, .int (nI tn1)), (2, .int (nI tn2)), (3, .int (nI tn3))]) hx hb dX12_body_125 hl (k := 5) rfl (nI_1 j2) (by decide) rfl (fun ls hl => ?_)
                        refine lv_goto (tgt := 65) hx hb dX12_body_128 (by decide) ?_
                        exact ih65 (j2 + 1) r_44 (nI j2) (nI j1) 1 H locs ls (by omega) (by omega)  (hP.sub [0, 1] rfl)  hS (lv_sub hl [0, 6, 1, 2, 3, 4, 7, 8, 9, 10] rfl)
              exact lp65 (13 + 1) 0 b1 b2 b3 b4 H locs ls (by omega) (by omega)  (hP.sub [0, 1] rfl)  hS (lv_sub hl [0, 1, 2, 3, 4, 5, 6, 7, 8, 9] rfl)
        exact lp53 (7 + 1) 0 (-1) 0 0 0 H locs ls (by omega) (by omega)  (hP.sub [0, 1] rfl)  hS (lv_sub hl [0, 1, 2, 3, 4, 5, 6, 7, 8] rfl)
      · refine lv_iconst (v := (-1)) hx hb dX12_body_36 (by decide) ?_
        exact W.iret (v := (-1)) hx hb hr (fun tt9 ht hW => ⟨⟨((-1) : Int32), (), rfl, trivial, trivial⟩, hS.F ht⟩) hS.2.2 dX12_body_37 hlocks

theorem lf_X12_story_8 (h : Nat) (q : Nat → Nat) (im : Nat → Int32) (m_says : Nat → Int32) (m_isStory : Nat → Int32) (n1 : Int32) (n2 : Int32) (n3 : Int32) (c_2 : (0 : Int32) ≤ n1 ∧ n1 ≤ 5) (tn1 : Nat) (tn1a : 0 ≤ tn1) (tn1b : tn1 ≤ 5) (tn1e : n1 = nI tn1) (c_4 : (0 : Int32) ≤ n2 ∧ n2 ≤ 5) (tn2 : Nat) (tn2a : 0 ≤ tn2) (tn2b : tn2 ≤ 5) (tn2e : n2 = nI tn2) (c_6 : (0 : Int32) ≤ n3 ∧ n3 ≤ 1000) (tn3 : Nat) (tn3a : 0 ≤ tn3) (tn3b : tn3 ≤ 1000) (tn3e : n3 = nI tn3) : vp_in (nI ((6 * tn1) + tn2)) 36 := by
  first | exact vp_in_nI (by omega) (by decide) | (unfold vp_in; decide)
theorem lf_X12_story_10 (h : Nat) (q : Nat → Nat) (im : Nat → Int32) (m_says : Nat → Int32) (m_isStory : Nat → Int32) (n1 : Int32) (n2 : Int32) (n3 : Int32) (c_2 : (0 : Int32) ≤ n1 ∧ n1 ≤ 5) (tn1 : Nat) (tn1a : 0 ≤ tn1) (tn1b : tn1 ≤ 5) (tn1e : n1 = nI tn1) (c_4 : (0 : Int32) ≤ n2 ∧ n2 ≤ 5) (tn2 : Nat) (tn2a : 0 ≤ tn2) (tn2b : tn2 ≤ 5) (tn2e : n2 = nI tn2) (c_6 : (0 : Int32) ≤ n3 ∧ n3 ≤ 1000) (tn3 : Nat) (tn3a : 0 ≤ tn3) (tn3b : tn3 ≤ 1000) (tn3e : n3 = nI tn3) (f_7 : Nat → Int32) : vp_in (nI tn1) 6 := by
  first | exact vp_in_nI (by omega) (by decide) | (unfold vp_in; decide)
set_option maxHeartbeats 4000000 in
set_option maxRecDepth 100000 in
theorem c_X12_story (l : Launch) (D : va_G) (cI cB cZ cJ : ClassId) (tx : List (ClassId × FieldType)) (h : Nat) (q : Nat → Nat) (im : Nat → Int32) (m_says : Nat → Int32) (m_isStory : Nat → Int32) (n1 : Int32) (n2 : Int32) (n3 : Int32) : WrI l D cI cB cZ cJ tx yX12_story cX12_story 4 (some .boolean) 1 0 0 [.ref h, .int n1, .int n2, .int n3] [(h, .inr (12, mG q im)), (q 75, .inl (cI, 36, .inl m_says)), (q 76, .inl (cZ, 6, .inl m_isStory))] (fun (r : Int32) (v : (Nat → Int32) × (Nat → Int32)) => True) (fun v => [(h, .inr (12, mG q im)), (q 75, .inl (cI, 36, .inl v.1)), (q 76, .inl (cZ, 6, .inl v.2))]) := by
  refine wri_of2 (by decide) (Nat.le_of_ble_eq_true rfl) ?_
  intro p e s m below meth c A ls H locs hC hK hP hD hA hS hl
  obtain ⟨hx, hb, hr, hml, hown, hts, hlocks, hin⟩ := hC
  have hown : s.vm.findClass RX12 = some m.cls := hown
  have hl : lv_has ls 4 [(0, .ref h), (1, .int n1), (2, .int n2), (3, .int n3)] := hl
  refine lv_iload_n hx hb dX12_story_0 rfl (lv_at hl 1 rfl) ?_
  refine lv_i2l (v := n1.toInt64) hx hb dX12_story_1 rfl ?_
  refine lv_lconst (v := 0) hx hb dX12_story_2 (by decide) ?_
  refine lv_ldc2 (v := 5) hx hb hown (hts _ k_2010) dX12_story_3 ?_
  refine eRi (va_runS (As := [.long n1.toInt64, .long 0, .long 5]) (rest := []) ⟨hx, hb, hml, hown, hts⟩ (c_X12_isIn l D cI cB cZ cJ tx n1.toInt64 0 5 H.size) (zS hts k_1602 v_X12_isIn ⟨Nat.le_of_ble_eq_true rfl, Nat.le_of_ble_eq_true rfl⟩) (px0 hK) rfl rfl hl.1 rfl (lv_room (Nat.le_of_ble_eq_true rfl)) dX12_story_6 ⟨Nat.le_of_ble_eq_true rfl, Nat.le_of_ble_eq_true rfl⟩) hP hS hA (fun r_1 H locs wr_1 hP hS => ?_)
  have wr_1 : r_1 = bi ((0 : Int32) ≤ n1 ∧ n1 ≤ 5) := isIn32 (lo := 0) (hi := 5) (by decide) (by decide) wr_1
  subst wr_1
  refine lv_bi_eq (tgt := 36) hx hb dX12_story_9 (by decide) (fun c_2 => ?_) (fun c_2 => ?_)
  · refine lv_iconst (v := 0) hx hb dX12_story_36 (by decide) ?_
    exact W.zret (v := 0) hx hb hr (by decide) (fun tt9 ht hW => ⟨⟨(0 : Int32), ((m_says : Nat → Int32), (m_isStory : Nat → Int32)), rfl, trivial, ⟨by rw [ht]; exact hP, hD⟩⟩, hS.F ht⟩) hS.2.2 dX12_story_37 hlocks
  · obtain ⟨tn1, tn1a, tn1b, tn1e⟩ := of_rng 0 5 rfl rfl c_2
    subst tn1e
    refine lv_iload_n hx hb dX12_story_12 rfl (lv_at hl 2 rfl) ?_
    refine lv_i2l (v := n2.toInt64) hx hb dX12_story_13 rfl ?_
    refine lv_lconst (v := 0) hx hb dX12_story_14 (by decide) ?_
    refine lv_ldc2 (v := 5) hx hb hown (hts _ k_2010) dX12_story_15 ?_
    refine eRi (va_runS (As := [.long n2.toInt64, .long 0, .long 5]) (rest := []) ⟨hx, hb, hml, hown, hts⟩ (c_X12_isIn l D cI cB cZ cJ tx n2.toInt64 0 5 H.size) (zS hts k_1602 v_X12_isIn ⟨Nat.le_of_ble_eq_true rfl, Nat.le_of_ble_eq_true rfl⟩) (px0 hK) rfl rfl hl.1 rfl (lv_room (Nat.le_of_ble_eq_true rfl)) dX12_story_18 ⟨Nat.le_of_ble_eq_true rfl, Nat.le_of_ble_eq_true rfl⟩) hP hS hA (fun r_3 H locs wr_3 hP hS => ?_)
    have wr_3 : r_3 = bi ((0 : Int32) ≤ n2 ∧ n2 ≤ 5) := isIn32 (lo := 0) (hi := 5) (by decide) (by decide) wr_3
    subst wr_3
    refine lv_bi_eq (tgt := 36) hx hb dX12_story_21 (by decide) (fun c_4 => ?_) (fun c_4 => ?_)
    · refine lv_iconst (v := 0) hx hb dX12_story_36 (by decide) ?_
      exact W.zret (v := 0) hx hb hr (by decide) (fun tt9 ht hW => ⟨⟨(0 : Int32), ((m_says : Nat → Int32), (m_isStory : Nat → Int32)), rfl, trivial, ⟨by rw [ht]; exact hP, hD⟩⟩, hS.F ht⟩) hS.2.2 dX12_story_37 hlocks
    · obtain ⟨tn2, tn2a, tn2b, tn2e⟩ := of_rng 0 5 rfl rfl c_4
      subst tn2e
      refine lv_iload_n hx hb dX12_story_24 rfl (lv_at hl 3 rfl) ?_
      refine lv_i2l (v := n3.toInt64) hx hb dX12_story_25 rfl ?_
      refine lv_lconst (v := 0) hx hb dX12_story_26 (by decide) ?_
      refine lv_ldc2 (v := 1000) hx hb hown (hts _ k_1601) dX12_story_27 ?_
      refine eRi (va_runS (As := [.long n3.toInt64, .long 0, .long 1000]) (rest := []) ⟨hx, hb, hml, hown, hts⟩ (c_X12_isIn l D cI cB cZ cJ tx n3.toInt64 0 1000 H.size) (zS hts k_1602 v_X12_isIn ⟨Nat.le_of_ble_eq_true rfl, Nat.le_of_ble_eq_true rfl⟩) (px0 hK) rfl rfl hl.1 rfl (lv_room (Nat.le_of_ble_eq_true rfl)) dX12_story_30 ⟨Nat.le_of_ble_eq_true rfl, Nat.le_of_ble_eq_true rfl⟩) hP hS hA (fun r_5 H locs wr_5 hP hS => ?_)
      have wr_5 : r_5 = bi ((0 : Int32) ≤ n3 ∧ n3 ≤ 1000) := isIn32 (lo := 0) (hi := 1000) (by decide) (by decide) wr_5
      subst wr_5
      refine lv_bi_ne (tgt := 38) hx hb dX12_story_33 (by decide) (fun c_6 => ?_) (fun c_6 => ?_)
      · obtain ⟨tn3, tn3a, tn3b, tn3e⟩ := of_rng 0 1000 rfl rfl c_6
        subst tn3e
        refine lv_aload_n hx hb dX12_story_38 rfl (lv_at hl 0 rfl) ?_
        refine va_get (D := D) (ci := 12) (v := .ref (q 75)) (C := RX12) (T := TX12) (N := 81) hx hb hts inT_X12 hown hK.1 hP 0 rfl rfl 75 (by decide) (hts _ k_1428) (fun _ h9 => h9) rfl dX12_story_39 ?_
        refine lv_bipush (v := 6) hx hb dX12_story_42 (by decide) ?_
        refine lv_iload_n hx hb dX12_story_44 rfl (lv_at hl 1 rfl) ?_
        refine lv_imul hx hb dX12_story_45 ?_
        refine lv_topv (y := nI (6 * tn1)) (pk_mul 6 tn1) ?_
        refine lv_iload_n hx hb dX12_story_46 rfl (lv_at hl 2 rfl) ?_
        refine lv_iadd hx hb dX12_story_47 ?_
        refine lv_topv (y := nI ((6 * tn1) + tn2)) (nI_add (6 * tn1) tn2) ?_
        refine lv_iload_n hx hb dX12_story_48 rfl (lv_at hl 3 rfl) ?_
        refine st_i hx hb hK hP hD hS 1 rfl (lf_X12_story_8 h q im m_says m_isStory (nI tn1) (nI tn2) (nI tn3) c_2 tn1 tn1a tn1b rfl c_4 tn2 tn2a tn2b rfl c_6 tn3 tn3a tn3b rfl) dX12_story_49 (fun f_7 H locs hP hD hS => ?_)
        have hP : va_P D vwCl [(h, .inr (12, mG q im)), (q 75, .inl (cI, 36, .inl f_7)), (q 76, .inl (cZ, 6, .inl m_isStory))] H := hP
        have hD : va_D A [(h, .inr (12, mG q im)), (q 75, .inl (cI, 36, .inl f_7)), (q 76, .inl (cZ, 6, .inl m_isStory))] := hD
        refine lv_aload_n hx hb dX12_story_50 rfl (lv_at hl 0 rfl) ?_
        refine va_get (D := D) (ci := 12) (v := .ref (q 76)) (C := RX12) (T := TX12) (N := 81) hx hb hts inT_X12 hown hK.1 hP 0 rfl rfl 76 (by decide) (hts _ k_1429) (fun _ h9 => h9) rfl dX12_story_51 ?_
        refine lv_iload_n hx hb dX12_story_54 rfl (lv_at hl 1 rfl) ?_
        refine lv_iconst (v := 1) hx hb dX12_story_55 (by decide) ?_
        refine st_z hx hb hK hP hD hS 2 rfl (lf_X12_story_10 h q im m_says m_isStory (nI tn1) (nI tn2) (nI tn3) c_2 tn1 tn1a tn1b rfl c_4 tn2 tn2a tn2b rfl c_6 tn3 tn3a tn3b rfl f_7) dX12_story_56 (fun f_9 H locs hP hD hS => ?_)
        have hP : va_P D vwCl [(h, .inr (12, mG q im)), (q 75, .inl (cI, 36, .inl f_7)), (q 76, .inl (cZ, 6, .inl f_9))] H := hP
        have hD : va_D A [(h, .inr (12, mG q im)), (q 75, .inl (cI, 36, .inl f_7)), (q 76, .inl (cZ, 6, .inl f_9))] := hD
        refine lv_iconst (v := 1) hx hb dX12_story_57 (by decide) ?_
        exact W.zret (v := 1) hx hb hr (by decide) (fun tt9 ht hW => ⟨⟨(1 : Int32), ((f_7 : Nat → Int32), (f_9 : Nat → Int32)), rfl, trivial, ⟨by rw [ht]; exact hP, hD⟩⟩, hS.F ht⟩) hS.2.2 dX12_story_58 hlocks
      · refine lv_iconst (v := 0) hx hb dX12_story_36 (by decide) ?_
        exact W.zret (v := 0) hx hb hr (by decide) (fun tt9 ht hW => ⟨⟨(0 : Int32), ((m_says : Nat → Int32), (m_isStory : Nat → Int32)), rfl, trivial, ⟨by rw [ht]; exact hP, hD⟩⟩, hS.F ht⟩) hS.2.2 dX12_story_37 hlocks

theorem lf_X12_sign_6 (h : Nat) (q : Nat → Nat) (im : Nat → Int32) (m_signSeen : Nat → Int32) (n1 : Int32) (n2 : Int32) (c_2 : (0 : Int32) ≤ n1 ∧ n1 ≤ 5) (tn1 : Nat) (tn1a : 0 ≤ tn1) (tn1b : tn1 ≤ 5) (tn1e : n1 = nI tn1) (c_4 : ((-1) : Int32) ≤ n2 ∧ n2 ≤ 1) : vp_in (nI tn1) 6 := by
  first | exact vp_in_nI (by omega) (by decide) | (unfold vp_in; decide)
set_option maxHeartbeats 4000000 in
set_option maxRecDepth 100000 in
theorem c_X12_sign (l : Launch) (D : va_G) (cI cB cZ cJ : ClassId) (tx : List (ClassId × FieldType)) (h : Nat) (q : Nat → Nat) (im : Nat → Int32) (m_signSeen : Nat → Int32) (n1 : Int32) (n2 : Int32) : WrI l D cI cB cZ cJ tx yX12_sign cX12_sign 3 (some .boolean) 1 0 0 [.ref h, .int n1, .int n2] [(h, .inr (12, mG q im)), (q 77, .inl (cI, 6, .inl m_signSeen))] (fun (r : Int32) (v : (Nat → Int32)) => True) (fun v => [(h, .inr (12, mG q im)), (q 77, .inl (cI, 6, .inl v))]) := by
  refine wri_of2 (by decide) (Nat.le_of_ble_eq_true rfl) ?_
  intro p e s m below meth c A ls H locs hC hK hP hD hA hS hl
  obtain ⟨hx, hb, hr, hml, hown, hts, hlocks, hin⟩ := hC
  have hown : s.vm.findClass RX12 = some m.cls := hown
  have hl : lv_has ls 3 [(0, .ref h), (1, .int n1), (2, .int n2)] := hl
  refine lv_iload_n hx hb dX12_sign_0 rfl (lv_at hl 1 rfl) ?_
  refine lv_i2l (v := n1.toInt64) hx hb dX12_sign_1 rfl ?_
  refine lv_lconst (v := 0) hx hb dX12_sign_2 (by decide) ?_
  refine lv_ldc2 (v := 5) hx hb hown (hts _ k_2010) dX12_sign_3 ?_
  refine eRi (va_runS (As := [.long n1.toInt64, .long 0, .long 5]) (rest := []) ⟨hx, hb, hml, hown, hts⟩ (c_X12_isIn l D cI cB cZ cJ tx n1.toInt64 0 5 H.size) (zS hts k_1602 v_X12_isIn ⟨Nat.le_of_ble_eq_true rfl, Nat.le_of_ble_eq_true rfl⟩) (px0 hK) rfl rfl hl.1 rfl (lv_room (Nat.le_of_ble_eq_true rfl)) dX12_sign_6 ⟨Nat.le_of_ble_eq_true rfl, Nat.le_of_ble_eq_true rfl⟩) hP hS hA (fun r_1 H locs wr_1 hP hS => ?_)
  have wr_1 : r_1 = bi ((0 : Int32) ≤ n1 ∧ n1 ≤ 5) := isIn32 (lo := 0) (hi := 5) (by decide) (by decide) wr_1
  subst wr_1
  refine lv_bi_eq (tgt := 24) hx hb dX12_sign_9 (by decide) (fun c_2 => ?_) (fun c_2 => ?_)
  · refine lv_iconst (v := 0) hx hb dX12_sign_24 (by decide) ?_
    exact W.zret (v := 0) hx hb hr (by decide) (fun tt9 ht hW => ⟨⟨(0 : Int32), ((m_signSeen : Nat → Int32)), rfl, trivial, ⟨by rw [ht]; exact hP, hD⟩⟩, hS.F ht⟩) hS.2.2 dX12_sign_25 hlocks
  · obtain ⟨tn1, tn1a, tn1b, tn1e⟩ := of_rng 0 5 rfl rfl c_2
    subst tn1e
    refine lv_iload_n hx hb dX12_sign_12 rfl (lv_at hl 2 rfl) ?_
    refine lv_i2l (v := n2.toInt64) hx hb dX12_sign_13 rfl ?_
    refine lv_ldc2 (v := (-1)) hx hb hown (hts _ k_1950) dX12_sign_14 ?_
    refine lv_lconst (v := 1) hx hb dX12_sign_17 (by decide) ?_
    refine eRi (va_runS (As := [.long n2.toInt64, .long (-1), .long 1]) (rest := []) ⟨hx, hb, hml, hown, hts⟩ (c_X12_isIn l D cI cB cZ cJ tx n2.toInt64 (-1) 1 H.size) (zS hts k_1602 v_X12_isIn ⟨Nat.le_of_ble_eq_true rfl, Nat.le_of_ble_eq_true rfl⟩) (px0 hK) rfl rfl hl.1 rfl (lv_room (Nat.le_of_ble_eq_true rfl)) dX12_sign_18 ⟨Nat.le_of_ble_eq_true rfl, Nat.le_of_ble_eq_true rfl⟩) hP hS hA (fun r_3 H locs wr_3 hP hS => ?_)
    have wr_3 : r_3 = bi (((-1) : Int32) ≤ n2 ∧ n2 ≤ 1) := isIn32 (lo := (-1)) (hi := 1) (by decide) (by decide) wr_3
    subst wr_3
    refine lv_bi_ne (tgt := 26) hx hb dX12_sign_21 (by decide) (fun c_4 => ?_) (fun c_4 => ?_)
    · refine lv_aload_n hx hb dX12_sign_26 rfl (lv_at hl 0 rfl) ?_
      refine va_get (D := D) (ci := 12) (v := .ref (q 77)) (C := RX12) (T := TX12) (N := 81) hx hb hts inT_X12 hown hK.1 hP 0 rfl rfl 77 (by decide) (hts _ k_1430) (fun _ h9 => h9) rfl dX12_sign_27 ?_
      refine lv_iload_n hx hb dX12_sign_30 rfl (lv_at hl 1 rfl) ?_
      refine lv_iload_n hx hb dX12_sign_31 rfl (lv_at hl 2 rfl) ?_
      refine st_i hx hb hK hP hD hS 1 rfl (lf_X12_sign_6 h q im m_signSeen (nI tn1) n2 c_2 tn1 tn1a tn1b rfl c_4) dX12_sign_32 (fun f_5 H locs hP hD hS => ?_)
      have hP : va_P D vwCl [(h, .inr (12, mG q im)), (q 77, .inl (cI, 6, .inl f_5))] H := hP
      have hD : va_D A [(h, .inr (12, mG q im)), (q 77, .inl (cI, 6, .inl f_5))] := hD
      refine lv_iconst (v := 1) hx hb dX12_sign_33 (by decide) ?_
      exact W.zret (v := 1) hx hb hr (by decide) (fun tt9 ht hW => ⟨⟨(1 : Int32), ((f_5 : Nat → Int32)), rfl, trivial, ⟨by rw [ht]; exact hP, hD⟩⟩, hS.F ht⟩) hS.2.2 dX12_sign_34 hlocks
    · refine lv_iconst (v := 0) hx hb dX12_sign_24 (by decide) ?_
      exact W.zret (v := 0) hx hb hr (by decide) (fun tt9 ht hW => ⟨⟨(0 : Int32), ((m_signSeen : Nat → Int32)), rfl, trivial, ⟨by rw [ht]; exact hP, hD⟩⟩, hS.F ht⟩) hS.2.2 dX12_sign_25 hlocks

theorem lf_X12_oddsOf_3 (h : Nat) (q : Nat → Nat) (im : Nat → Int32) (m_says : Nat → Int32) (m_signSeen : Nat → Int32) (k1 : Nat) (hk1 : k1 < 6) (j1 : Nat) (w1 : Int64) (k5 : Nat) (hj5 : j1 ≤ 6) (hk5 : 6 < j1 + (k5 + 1)) (c_1 : 6 ≤ nI j1) : 6 ≤ j1 := by
  exact (nI_leI (a := 6) (b := j1) (by omega) (by omega)).mp c_1
theorem lf_X12_oddsOf_5 (h : Nat) (q : Nat → Nat) (im : Nat → Int32) (m_says : Nat → Int32) (m_signSeen : Nat → Int32) (k1 : Nat) (hk1 : k1 < 6) (j1 : Nat) (w1 : Int64) (k5 : Nat) (hj5 : j1 ≤ 6) (hk5 : 6 < j1 + (k5 + 1)) (c_1 : ¬ 6 ≤ nI j1) : j1 < 6 := by
  exact Nat.lt_of_not_le (fun q => c_1 ((nI_leI (a := 6) (b := j1) (by omega) (by omega)).mpr q))
theorem lf_X12_oddsOf_6 (h : Nat) (q : Nat → Nat) (im : Nat → Int32) (m_says : Nat → Int32) (m_signSeen : Nat → Int32) (k1 : Nat) (hk1 : k1 < 6) (j1 : Nat) (w1 : Int64) (k5 : Nat) (hj5 : j1 ≤ 6) (hk5 : 6 < j1 + (k5 + 1)) (c_1 : ¬ 6 ≤ nI j1) (n_4 : j1 < 6) : vp_in (nI j1) 6 := by
  first | exact vp_in_nI (by omega) (by decide) | (unfold vp_in; decide)
theorem lf_X12_oddsOf_9 (h : Nat) (q : Nat → Nat) (im : Nat → Int32) (m_says : Nat → Int32) (m_signSeen : Nat → Int32) (k1 : Nat) (hk1 : k1 < 6) (j1 : Nat) (w1 : Int64) (k5 : Nat) (hj5 : j1 ≤ 6) (hk5 : 6 < j1 + (k5 + 1)) (c_1 : ¬ 6 ≤ nI j1) (n_4 : j1 < 6) (x_7 : Int32) (c_8 : ¬ x_7 = (-1)) : vp_in (nI j1) 6 := by
  first | exact vp_in_nI (by omega) (by decide) | (unfold vp_in; decide)
theorem lf_X12_oddsOf_12 (h : Nat) (q : Nat → Nat) (im : Nat → Int32) (m_says : Nat → Int32) (m_signSeen : Nat → Int32) (k1 : Nat) (hk1 : k1 < 6) (j1 : Nat) (w1 : Int64) (k5 : Nat) (hj5 : j1 ≤ 6) (hk5 : 6 < j1 + (k5 + 1)) (c_1 : ¬ 6 ≤ nI j1) (n_4 : j1 < 6) (x_7 : Int32) (c_8 : ¬ x_7 = (-1)) (x_10 : Int32) (c_11 : ¬ x_10 = 1) : vp_in (nI ((6 * k1) + j1)) 36 := by
  first | exact vp_in_nI (by omega) (by decide) | (unfold vp_in; decide)
theorem lf_X12_oddsOf_16 (h : Nat) (q : Nat → Nat) (im : Nat → Int32) (m_says : Nat → Int32) (m_signSeen : Nat → Int32) (k1 : Nat) (hk1 : k1 < 6) (j1 : Nat) (w1 : Int64) (k5 : Nat) (hj5 : j1 ≤ 6) (hk5 : 6 < j1 + (k5 + 1)) (c_1 : ¬ 6 ≤ nI j1) (n_4 : j1 < 6) (x_7 : Int32) (c_8 : ¬ x_7 = (-1)) (x_10 : Int32) (c_11 : x_10 = 1) : vp_in (nI ((6 * k1) + j1)) 36 := by
  first | exact vp_in_nI (by omega) (by decide) | (unfold vp_in; decide)
set_option maxHeartbeats 4000000 in
set_option maxRecDepth 100000 in
theorem c_X12_oddsOf (l : Launch) (D : va_G) (cI cB cZ cJ : ClassId) (tx : List (ClassId × FieldType)) (h : Nat) (q : Nat → Nat) (im : Nat → Int32) (m_says : Nat → Int32) (m_signSeen : Nat → Int32) (k1 : Nat) (hk1 : k1 < 6) : RdL l D cI cB cZ cJ tx yX12_oddsOf cX12_oddsOf 5 (some .long) 0 [.ref h, .int (nI k1)] [(h, .inr (12, mG q im)), (q 75, .inl (cI, 36, .inl m_says)), (q 77, .inl (cI, 6, .inl m_signSeen))] (fun r => True) := by
  refine rdl_of2 (by decide) (Nat.le_of_ble_eq_true rfl) ?_
  intro p e s m below meth c A ls H locs hC hK hP hD hA hS hl
  obtain ⟨hx, hb, hr, hml, hown, hts, hlocks, hin⟩ := hC
  have hown : s.vm.findClass RX12 = some m.cls := hown
  have hl : lv_has ls 5 [(0, .ref h), (1, .int (nI k1))] := hl
  refine lv_lconst (v := 1) hx hb dX12_oddsOf_0 (by decide) ?_
  refine lv_lstore_n (lv' := [(2, .long 1), (0, .ref h), (1, .int (nI k1))]) hx hb dX12_oddsOf_1 rfl hl (by decide) rfl (fun ls hl => ?_)
  refine lv_iconst (v := 0) hx hb dX12_oddsOf_2 (by decide) ?_
  refine lv_istore (lv' := [(4, .int 0), (2, .long 1), (0, .ref h), (1, .int (nI k1))]) hx hb dX12_oddsOf_3 hl (by decide) rfl (fun ls hl => ?_)
  have lp5 : ∀ (k5 : Nat) (j1 : Nat) (w1 : Int64) (H : Heap) (locs : List Loc) (ls : Array Slot), j1 ≤ 6 → 6 < j1 + k5 → va_P D vwCl [(h, .inr (12, mG q im)), (q 75, .inl (cI, 36, .inl m_says)), (q 77, .inl (cI, 6, .inl m_signSeen))] H → va_S A s.heap H locs → lv_has ls 5 [(4, .int (nI j1)), (2, .long w1), (0, .ref h), (1, .int (nI k1))] → W p l e (rmX 0 0 0) s m ([.ref h, .int (nI k1)] : List Value).toArray below meth c H locs 0 0 (MQ below (va_Ql (fun r (_ : Unit) => (fun r => True) r) (fun _ _ => True) A) ([.ref h, .int (nI k1)] : List Value).toArray s 0 0 A) (F0 m 5 ls []) := by
    intro k5
    induction k5 with
    | zero =>
      intro j1 w1 H locs ls hj5 hk5  hP hS hl
      exact absurd hk5 (by omega)
    | succ k5 ih5 =>
      intro j1 w1 H locs ls hj5 hk5  hP hS hl
      refine lv_iload hx hb dX12_oddsOf_5 (lv_at hl 0 rfl) ?_
      refine lv_bipush (v := 6) hx hb dX12_oddsOf_7 (by decide) ?_
      refine lv_icmp_ge (tgt := 76) hx hb dX12_oddsOf_9 (by decide) (fun c_1 => ?_) (fun c_1 => ?_)
      · have n_2 : 6 ≤ j1 := (lf_X12_oddsOf_3 h q im m_says m_signSeen k1 hk1 j1 w1 k5 hj5 hk5 c_1)
        refine lv_lload_n hx hb dX12_oddsOf_76 rfl (lv_at hl 1 rfl) ?_
        exact W.lret (v := w1) hx hb hr (fun tt9 ht hW => ⟨⟨(w1 : Int64), (), rfl, trivial, trivial⟩, hS.F ht⟩) hS.2.2 dX12_oddsOf_77 hlocks
      · have n_4 : j1 < 6 := (lf_X12_oddsOf_5 h q im m_says m_signSeen k1 hk1 j1 w1 k5 hj5 hk5 c_1)
        refine lv_aload_n hx hb dX12_oddsOf_12 rfl (lv_at hl 2 rfl) ?_
        refine va_get (D := D) (ci := 12) (v := .ref (q 77)) (C := RX12) (T := TX12) (N := 81) hx hb hts inT_X12 hown hK.1 hP 0 rfl rfl 77 (by decide) (hts _ k_1430) (fun _ h9 => h9) rfl dX12_oddsOf_13 ?_
        refine lv_iload hx hb dX12_oddsOf_16 (lv_at hl 0 rfl) ?_
        refine ld_i hx hb hK hP 2 rfl (lf_X12_oddsOf_6 h q im m_says m_signSeen k1 hk1 j1 w1 k5 hj5 hk5 c_1 n_4) dX12_oddsOf_18 (fun x_7 => ?_)
        refine lv_iconst (v := (-1)) hx hb dX12_oddsOf_19 (by decide) ?_
        refine lv_icmp_eq (tgt := 70) hx hb dX12_oddsOf_20 (by decide) (fun c_8 => ?_) (fun c_8 => ?_)
        · refine lv_iinc (v := nI (j1 + 1)) (lv' := [(4, .int (nI (j1 + 1))), (2, .long w1), (0, .ref h), (1, .int (nI k1))]) hx hb dX12_oddsOf_70 hl (k := 0) rfl (nI_1 j1) (by decide) rfl (fun ls hl => ?_)
          refine lv_goto (tgt := 5) hx hb dX12_oddsOf_73 (by decide) ?_
          exact ih5 (j1 + 1) w1 H locs ls (by omega) (by omega)  (hP.sub [0, 1, 2] rfl)  hS (lv_sub hl [0, 1, 2, 3] rfl)
        · refine lv_lload_n hx hb dX12_oddsOf_23 rfl (lv_at hl 1 rfl) ?_
          refine lv_aload_n hx hb dX12_oddsOf_24 rfl (lv_at hl 2 rfl) ?_
          refine va_get (D := D) (ci := 12) (v := .ref (q 77)) (C := RX12) (T := TX12) (N := 81) hx hb hts inT_X12 hown hK.1 hP 0 rfl rfl 77 (by decide) (hts _ k_1430) (fun _ h9 => h9) rfl dX12_oddsOf_25 ?_
          refine lv_iload hx hb dX12_oddsOf_28 (lv_at hl 0 rfl) ?_
          refine ld_i hx hb hK hP 2 rfl (lf_X12_oddsOf_9 h q im m_says m_signSeen k1 hk1 j1 w1 k5 hj5 hk5 c_1 n_4 x_7 c_8) dX12_oddsOf_30 (fun x_10 => ?_)
          refine lv_iconst (v := 1) hx hb dX12_oddsOf_31 (by decide) ?_
          refine lv_icmp_ne (tgt := 51) hx hb dX12_oddsOf_32 (by decide) (fun c_11 => ?_) (fun c_11 => ?_)
          · refine lv_sipush (v := 1000) hx hb dX12_oddsOf_51 (by decide) ?_
            refine lv_aload_n hx hb dX12_oddsOf_54 rfl (lv_at hl 2 rfl) ?_
            refine va_get (D := D) (ci := 12) (v := .ref (q 75)) (C := RX12) (T := TX12) (N := 81) hx hb hts inT_X12 hown hK.1 hP 0 rfl rfl 75 (by decide) (hts _ k_1428) (fun _ h9 => h9) rfl dX12_oddsOf_55 ?_
            refine lv_bipush (v := 6) hx hb dX12_oddsOf_58 (by decide) ?_
            refine lv_iload_n hx hb dX12_oddsOf_60 rfl (lv_at hl 3 rfl) ?_
            refine lv_imul hx hb dX12_oddsOf_61 ?_
            refine lv_topv (y := nI (6 * k1)) (pk_mul 6 k1) ?_
            refine lv_iload hx hb dX12_oddsOf_62 (lv_at hl 0 rfl) ?_
            refine lv_iadd hx hb dX12_oddsOf_64 ?_
            refine lv_topv (y := nI ((6 * k1) + j1)) (nI_add (6 * k1) j1) ?_
            refine ld_i hx hb hK hP 1 rfl (lf_X12_oddsOf_12 h q im m_says m_signSeen k1 hk1 j1 w1 k5 hj5 hk5 c_1 n_4 x_7 c_8 x_10 c_11) dX12_oddsOf_65 (fun x_13 => ?_)
            refine lv_isub hx hb dX12_oddsOf_66 ?_
            refine lv_topi (fun x_14 ex_14 => ?_)
            refine lv_i2l (v := x_14.toInt64) hx hb dX12_oddsOf_67 rfl ?_
            refine lv_lmul hx hb dX12_oddsOf_68 ?_
            refine lv_topl (fun x_15 ex_15 => ?_)
            refine lv_lstore_n (lv' := [(2, .long x_15), (4, .int (nI j1)), (0, .ref h), (1, .int (nI k1))]) hx hb dX12_oddsOf_69 rfl hl (by decide) rfl (fun ls hl => ?_)
            refine lv_iinc (v := nI (j1 + 1)) (lv' := [(4, .int (nI (j1 + 1))), (2, .long x_15), (0, .ref h), (1, .int (nI k1))]) hx hb dX12_oddsOf_70 hl (k := 1) rfl (nI_1 j1) (by decide) rfl (fun ls hl => ?_)
            refine lv_goto (tgt := 5) hx hb dX12_oddsOf_73 (by decide) ?_
            exact ih5 (j1 + 1) x_15 H locs ls (by omega) (by omega)  (hP.sub [0, 1, 2] rfl)  hS (lv_sub hl [0, 1, 2, 3] rfl)
          · refine lv_aload_n hx hb dX12_oddsOf_35 rfl (lv_at hl 2 rfl) ?_
            refine va_get (D := D) (ci := 12) (v := .ref (q 75)) (C := RX12) (T := TX12) (N := 81) hx hb hts inT_X12 hown hK.1 hP 0 rfl rfl 75 (by decide) (hts _ k_1428) (fun _ h9 => h9) rfl dX12_oddsOf_36 ?_
            refine lv_bipush (v := 6) hx hb dX12_oddsOf_39 (by decide) ?_
            refine lv_iload_n hx hb dX12_oddsOf_41 rfl (lv_at hl 3 rfl) ?_
            refine lv_imul hx hb dX12_oddsOf_42 ?_
            refine lv_topv (y := nI (6 * k1)) (pk_mul 6 k1) ?_
            refine lv_iload hx hb dX12_oddsOf_43 (lv_at hl 0 rfl) ?_
            refine lv_iadd hx hb dX12_oddsOf_45 ?_
            refine lv_topv (y := nI ((6 * k1) + j1)) (nI_add (6 * k1) j1) ?_
            refine ld_i hx hb hK hP 1 rfl (lf_X12_oddsOf_16 h q im m_says m_signSeen k1 hk1 j1 w1 k5 hj5 hk5 c_1 n_4 x_7 c_8 x_10 c_11) dX12_oddsOf_46 (fun x_17 => ?_)
            refine lv_i2l (v := x_17.toInt64) hx hb dX12_oddsOf_47 rfl ?_
            refine lv_goto (tgt := 68) hx hb dX12_oddsOf_48 (by decide) ?_
            refine lv_lmul hx hb dX12_oddsOf_68 ?_
            refine lv_topl (fun x_18 ex_18 => ?_)
            refine lv_lstore_n (lv' := [(2, .long x_18), (4, .int (nI j1)), (0, .ref h), (1, .int (nI k1))]) hx hb dX12_oddsOf_69 rfl hl (by decide) rfl (fun ls hl => ?_)
            refine lv_iinc (v := nI (j1 + 1)) (lv' := [(4, .int (nI (j1 + 1))), (2, .long x_18), (0, .ref h), (1, .int (nI k1))]) hx hb dX12_oddsOf_70 hl (k := 1) rfl (nI_1 j1) (by decide) rfl (fun ls hl => ?_)
            refine lv_goto (tgt := 5) hx hb dX12_oddsOf_73 (by decide) ?_
            exact ih5 (j1 + 1) x_18 H locs ls (by omega) (by omega)  (hP.sub [0, 1, 2] rfl)  hS (lv_sub hl [0, 1, 2, 3] rfl)
  exact lp5 (6 + 1) 0 1 H locs ls (by omega) (by omega)  (hP.sub [0, 1, 2] rfl)  hS (lv_sub hl [0, 1, 2, 3] rfl)

theorem lf_X12_storiesTold_3 (h : Nat) (q : Nat → Nat) (im : Nat → Int32) (m_isStory : Nat → Int32) (j1 : Nat) (w1 : Int32) (k4 : Nat) (hj4 : j1 ≤ 6) (hk4 : 6 < j1 + (k4 + 1)) (c_1 : 6 ≤ nI j1) : 6 ≤ j1 := by
  exact (nI_leI (a := 6) (b := j1) (by omega) (by omega)).mp c_1
theorem lf_X12_storiesTold_5 (h : Nat) (q : Nat → Nat) (im : Nat → Int32) (m_isStory : Nat → Int32) (j1 : Nat) (w1 : Int32) (k4 : Nat) (hj4 : j1 ≤ 6) (hk4 : 6 < j1 + (k4 + 1)) (c_1 : ¬ 6 ≤ nI j1) : j1 < 6 := by
  exact Nat.lt_of_not_le (fun q => c_1 ((nI_leI (a := 6) (b := j1) (by omega) (by omega)).mpr q))
theorem lf_X12_storiesTold_6 (h : Nat) (q : Nat → Nat) (im : Nat → Int32) (m_isStory : Nat → Int32) (j1 : Nat) (w1 : Int32) (k4 : Nat) (hj4 : j1 ≤ 6) (hk4 : 6 < j1 + (k4 + 1)) (c_1 : ¬ 6 ≤ nI j1) (n_4 : j1 < 6) : vp_in (nI j1) 6 := by
  first | exact vp_in_nI (by omega) (by decide) | (unfold vp_in; decide)
set_option maxHeartbeats 4000000 in
set_option maxRecDepth 100000 in
theorem c_X12_storiesTold (l : Launch) (D : va_G) (cI cB cZ cJ : ClassId) (tx : List (ClassId × FieldType)) (h : Nat) (q : Nat → Nat) (im : Nat → Int32) (m_isStory : Nat → Int32) : RdI l D cI cB cZ cJ tx yX12_storiesTold cX12_storiesTold 3 (some .int) 0 [.ref h] [(h, .inr (12, mG q im)), (q 76, .inl (cZ, 6, .inl m_isStory))] (fun r => True) := by
  refine rdi_of2 (by decide) (Nat.le_of_ble_eq_true rfl) ?_
  intro p e s m below meth c A ls H locs hC hK hP hD hA hS hl
  obtain ⟨hx, hb, hr, hml, hown, hts, hlocks, hin⟩ := hC
  have hown : s.vm.findClass RX12 = some m.cls := hown
  have hl : lv_has ls 3 [(0, .ref h)] := hl
  refine lv_iconst (v := 0) hx hb dX12_storiesTold_0 (by decide) ?_
  refine lv_istore_n (lv' := [(1, .int 0), (0, .ref h)]) hx hb dX12_storiesTold_1 rfl hl (by decide) rfl (fun ls hl => ?_)
  refine lv_iconst (v := 0) hx hb dX12_storiesTold_2 (by decide) ?_
  refine lv_istore_n (lv' := [(2, .int 0), (1, .int 0), (0, .ref h)]) hx hb dX12_storiesTold_3 rfl hl (by decide) rfl (fun ls hl => ?_)
  have lp4 : ∀ (k4 : Nat) (j1 : Nat) (w1 : Int32) (H : Heap) (locs : List Loc) (ls : Array Slot), j1 ≤ 6 → 6 < j1 + k4 → va_P D vwCl [(h, .inr (12, mG q im)), (q 76, .inl (cZ, 6, .inl m_isStory))] H → va_S A s.heap H locs → lv_has ls 3 [(2, .int (nI j1)), (1, .int w1), (0, .ref h)] → W p l e (rmX 0 0 0) s m ([.ref h] : List Value).toArray below meth c H locs 0 0 (MQ below (va_Qi (fun r (_ : Unit) => (fun r => True) r) (fun _ _ => True) A) ([.ref h] : List Value).toArray s 0 0 A) (F0 m 4 ls []) := by
    intro k4
    induction k4 with
    | zero =>
      intro j1 w1 H locs ls hj4 hk4  hP hS hl
      exact absurd hk4 (by omega)
    | succ k4 ih4 =>
      intro j1 w1 H locs ls hj4 hk4  hP hS hl
      refine lv_iload_n hx hb dX12_storiesTold_4 rfl (lv_at hl 0 rfl) ?_
      refine lv_bipush (v := 6) hx hb dX12_storiesTold_5 (by decide) ?_
      refine lv_icmp_ge (tgt := 33) hx hb dX12_storiesTold_7 (by decide) (fun c_1 => ?_) (fun c_1 => ?_)
      · have n_2 : 6 ≤ j1 := (lf_X12_storiesTold_3 h q im m_isStory j1 w1 k4 hj4 hk4 c_1)
        refine lv_iload_n hx hb dX12_storiesTold_33 rfl (lv_at hl 1 rfl) ?_
        exact W.iret (v := w1) hx hb hr (fun tt9 ht hW => ⟨⟨(w1 : Int32), (), rfl, trivial, trivial⟩, hS.F ht⟩) hS.2.2 dX12_storiesTold_34 hlocks
      · have n_4 : j1 < 6 := (lf_X12_storiesTold_5 h q im m_isStory j1 w1 k4 hj4 hk4 c_1)
        refine lv_iload_n hx hb dX12_storiesTold_10 rfl (lv_at hl 1 rfl) ?_
        refine lv_aload_n hx hb dX12_storiesTold_11 rfl (lv_at hl 2 rfl) ?_
        refine va_get (D := D) (ci := 12) (v := .ref (q 76)) (C := RX12) (T := TX12) (N := 81) hx hb hts inT_X12 hown hK.1 hP 0 rfl rfl 76 (by decide) (hts _ k_1429) (fun _ h9 => h9) rfl dX12_storiesTold_12 ?_
        refine lv_iload_n hx hb dX12_storiesTold_15 rfl (lv_at hl 0 rfl) ?_
        refine ld_z hx hb hK hP 1 rfl (lf_X12_storiesTold_6 h q im m_isStory j1 w1 k4 hj4 hk4 c_1 n_4) dX12_storiesTold_16 (fun x_7 => ?_)
        refine lv_if_eq (tgt := 24) hx hb dX12_storiesTold_17 (by decide) (fun c_8 => ?_) (fun c_8 => ?_)
        · refine lv_iconst (v := 0) hx hb dX12_storiesTold_24 (by decide) ?_
          refine lv_iadd hx hb dX12_storiesTold_25 ?_
          refine lv_topi (fun x_9 ex_9 => ?_)
          refine lv_istore_n (lv' := [(1, .int x_9), (2, .int (nI j1)), (0, .ref h)]) hx hb dX12_storiesTold_26 rfl hl (by decide) rfl (fun ls hl => ?_)
          refine lv_iinc (v := nI (j1 + 1)) (lv' := [(2, .int (nI (j1 + 1))), (1, .int x_9), (0, .ref h)]) hx hb dX12_storiesTold_27 hl (k := 1) rfl (nI_1 j1) (by decide) rfl (fun ls hl => ?_)
          refine lv_goto (tgt := 4) hx hb dX12_storiesTold_30 (by decide) ?_
          exact ih4 (j1 + 1) x_9 H locs ls (by omega) (by omega)  (hP.sub [0, 1] rfl)  hS (lv_sub hl [0, 1, 2] rfl)
        · refine lv_iconst (v := 1) hx hb dX12_storiesTold_20 (by decide) ?_
          refine lv_goto (tgt := 25) hx hb dX12_storiesTold_21 (by decide) ?_
          refine lv_iadd hx hb dX12_storiesTold_25 ?_
          refine lv_topi (fun x_10 ex_10 => ?_)
          refine lv_istore_n (lv' := [(1, .int x_10), (2, .int (nI j1)), (0, .ref h)]) hx hb dX12_storiesTold_26 rfl hl (by decide) rfl (fun ls hl => ?_)
          refine lv_iinc (v := nI (j1 + 1)) (lv' := [(2, .int (nI (j1 + 1))), (1, .int x_10), (0, .ref h)]) hx hb dX12_storiesTold_27 hl (k := 1) rfl (nI_1 j1) (by decide) rfl (fun ls hl => ?_)
          refine lv_goto (tgt := 4) hx hb dX12_storiesTold_30 (by decide) ?_
          exact ih4 (j1 + 1) x_10 H locs ls (by omega) (by omega)  (hP.sub [0, 1] rfl)  hS (lv_sub hl [0, 1, 2] rfl)
  exact lp4 (6 + 1) 0 0 H locs ls (by omega) (by omega)  (hP.sub [0, 1] rfl)  hS (lv_sub hl [0, 1, 2] rfl)

theorem lf_X12_odds_4 (h : Nat) (q : Nat → Nat) (im : Nat → Int32) (m_says : Nat → Int32) (m_isStory : Nat → Int32) (m_signSeen : Nat → Int32) (n1 : Int32) (c_1 : n1 = (-1)) (j1 : Nat) (w1 : Int64) (k43 : Nat) (hj43 : j1 ≤ 6) (hk43 : 6 < j1 + (k43 + 1)) (c_2 : 6 ≤ nI j1) : 6 ≤ j1 := by
  exact (nI_leI (a := 6) (b := j1) (by omega) (by omega)).mp c_2
theorem lf_X12_odds_6 (h : Nat) (q : Nat → Nat) (im : Nat → Int32) (m_says : Nat → Int32) (m_isStory : Nat → Int32) (m_signSeen : Nat → Int32) (n1 : Int32) (c_1 : n1 = (-1)) (j1 : Nat) (w1 : Int64) (k43 : Nat) (hj43 : j1 ≤ 6) (hk43 : 6 < j1 + (k43 + 1)) (c_2 : ¬ 6 ≤ nI j1) : j1 < 6 := by
  exact Nat.lt_of_not_le (fun q => c_2 ((nI_leI (a := 6) (b := j1) (by omega) (by omega)).mpr q))
theorem lf_X12_odds_7 (h : Nat) (q : Nat → Nat) (im : Nat → Int32) (m_says : Nat → Int32) (m_isStory : Nat → Int32) (m_signSeen : Nat → Int32) (n1 : Int32) (c_1 : n1 = (-1)) (j1 : Nat) (w1 : Int64) (k43 : Nat) (hj43 : j1 ≤ 6) (hk43 : 6 < j1 + (k43 + 1)) (c_2 : ¬ 6 ≤ nI j1) (n_5 : j1 < 6) : vp_in (nI j1) 6 := by
  first | exact vp_in_nI (by omega) (by decide) | (unfold vp_in; decide)
theorem lf_X12_odds_11 (h : Nat) (q : Nat → Nat) (im : Nat → Int32) (m_says : Nat → Int32) (m_isStory : Nat → Int32) (m_signSeen : Nat → Int32) (n1 : Int32) (c_1 : n1 = (-1)) (j1 : Nat) (w1 : Int64) (k43 : Nat) (hj43 : j1 ≤ 6) (hk43 : 6 < j1 + (k43 + 1)) (c_2 : ¬ 6 ≤ nI j1) (n_5 : j1 < 6) (x_8 : Int32) (c_9 : ¬ x_8 = 0) : j1 < 6 := by
  first | assumption | omega | decide | rfl
theorem lf_X12_odds_16 (h : Nat) (q : Nat → Nat) (im : Nat → Int32) (m_says : Nat → Int32) (m_isStory : Nat → Int32) (m_signSeen : Nat → Int32) (n1 : Int32) (c_1 : ¬ n1 = (-1)) (c_15 : (0 : Int32) ≤ n1 ∧ n1 ≤ 5) (tn1 : Nat) (tn1a : 0 ≤ tn1) (tn1b : tn1 ≤ 5) (tn1e : n1 = nI tn1) : vp_in (nI tn1) 6 := by
  first | exact vp_in_nI (by omega) (by decide) | (unfold vp_in; decide)
theorem lf_X12_odds_19 (h : Nat) (q : Nat → Nat) (im : Nat → Int32) (m_says : Nat → Int32) (m_isStory : Nat → Int32) (m_signSeen : Nat → Int32) (n1 : Int32) (c_1 : ¬ n1 = (-1)) (c_15 : (0 : Int32) ≤ n1 ∧ n1 ≤ 5) (tn1 : Nat) (tn1a : 0 ≤ tn1) (tn1b : tn1 ≤ 5) (tn1e : n1 = nI tn1) (x_17 : Int32) (c_18 : ¬ x_17 = 0) : tn1 < 6 := by
  first | assumption | omega | decide | rfl
set_option maxHeartbeats 4000000 in
set_option maxRecDepth 100000 in
theorem c_X12_odds (l : Launch) (D : va_G) (cI cB cZ cJ : ClassId) (tx : List (ClassId × FieldType)) (h : Nat) (q : Nat → Nat) (im : Nat → Int32) (m_says : Nat → Int32) (m_isStory : Nat → Int32) (m_signSeen : Nat → Int32) (n1 : Int32) : RdL l D cI cB cZ cJ tx yX12_odds cX12_odds 5 (some .long) 1 [.ref h, .int n1] [(h, .inr (12, mG q im)), (q 75, .inl (cI, 36, .inl m_says)), (q 76, .inl (cZ, 6, .inl m_isStory)), (q 77, .inl (cI, 6, .inl m_signSeen))] (fun r => True) := by
  refine rdl_of2 (by decide) (Nat.le_of_ble_eq_true rfl) ?_
  intro p e s m below meth c A ls H locs hC hK hP hD hA hS hl
  obtain ⟨hx, hb, hr, hml, hown, hts, hlocks, hin⟩ := hC
  have hown : s.vm.findClass RX12 = some m.cls := hown
  have hl : lv_has ls 5 [(0, .ref h), (1, .int n1)] := hl
  refine lv_iload_n hx hb dX12_odds_0 rfl (lv_at hl 1 rfl) ?_
  refine lv_iconst (v := (-1)) hx hb dX12_odds_1 (by decide) ?_
  refine lv_icmp_eq (tgt := 38) hx hb dX12_odds_2 (by decide) (fun c_1 => ?_) (fun c_1 => ?_)
  · refine lv_lconst (v := 0) hx hb dX12_odds_38 (by decide) ?_
    refine lv_lstore_n (lv' := [(2, .long 0), (0, .ref h), (1, .int n1)]) hx hb dX12_odds_39 rfl hl (by decide) rfl (fun ls hl => ?_)
    refine lv_iconst (v := 0) hx hb dX12_odds_40 (by decide) ?_
    refine lv_istore (lv' := [(4, .int 0), (2, .long 0), (0, .ref h), (1, .int n1)]) hx hb dX12_odds_41 hl (by decide) rfl (fun ls hl => ?_)
    have lp43 : ∀ (k43 : Nat) (j1 : Nat) (w1 : Int64) (H : Heap) (locs : List Loc) (ls : Array Slot), j1 ≤ 6 → 6 < j1 + k43 → va_P D vwCl [(h, .inr (12, mG q im)), (q 75, .inl (cI, 36, .inl m_says)), (q 76, .inl (cZ, 6, .inl m_isStory)), (q 77, .inl (cI, 6, .inl m_signSeen))] H → va_S A s.heap H locs → lv_has ls 5 [(4, .int (nI j1)), (2, .long w1), (0, .ref h), (1, .int n1)] → W p l e (rmX 1 0 0) s m ([.ref h, .int n1] : List Value).toArray below meth c H locs 0 0 (MQ below (va_Ql (fun r (_ : Unit) => (fun r => True) r) (fun _ _ => True) A) ([.ref h, .int n1] : List Value).toArray s 0 0 A) (F0 m 43 ls []) := by
      intro k43
      induction k43 with
      | zero =>
        intro j1 w1 H locs ls hj43 hk43  hP hS hl
        exact absurd hk43 (by omega)
      | succ k43 ih43 =>
        intro j1 w1 H locs ls hj43 hk43  hP hS hl
        refine lv_iload hx hb dX12_odds_43 (lv_at hl 0 rfl) ?_
        refine lv_bipush (v := 6) hx hb dX12_odds_45 (by decide) ?_
        refine lv_icmp_ge (tgt := 79) hx hb dX12_odds_47 (by decide) (fun c_2 => ?_) (fun c_2 => ?_)
        · have n_3 : 6 ≤ j1 := (lf_X12_odds_4 h q im m_says m_isStory m_signSeen n1 c_1 j1 w1 k43 hj43 hk43 c_2)
          refine lv_lload_n hx hb dX12_odds_79 rfl (lv_at hl 1 rfl) ?_
          exact W.lret (v := w1) hx hb hr (fun tt9 ht hW => ⟨⟨(w1 : Int64), (), rfl, trivial, trivial⟩, hS.F ht⟩) hS.2.2 dX12_odds_80 hlocks
        · have n_5 : j1 < 6 := (lf_X12_odds_6 h q im m_says m_isStory m_signSeen n1 c_1 j1 w1 k43 hj43 hk43 c_2)
          refine lv_lload_n hx hb dX12_odds_50 rfl (lv_at hl 1 rfl) ?_
          refine lv_aload_n hx hb dX12_odds_51 rfl (lv_at hl 2 rfl) ?_
          refine va_get (D := D) (ci := 12) (v := .ref (q 76)) (C := RX12) (T := TX12) (N := 81) hx hb hts inT_X12 hown hK.1 hP 0 rfl rfl 76 (by decide) (hts _ k_1429) (fun _ h9 => h9) rfl dX12_odds_52 ?_
          refine lv_iload hx hb dX12_odds_55 (lv_at hl 0 rfl) ?_
          refine ld_z hx hb hK hP 2 rfl (lf_X12_odds_7 h q im m_says m_isStory m_signSeen n1 c_1 j1 w1 k43 hj43 hk43 c_2 n_5) dX12_odds_57 (fun x_8 => ?_)
          refine lv_if_eq (tgt := 70) hx hb dX12_odds_58 (by decide) (fun c_9 => ?_) (fun c_9 => ?_)
          · refine lv_lconst (v := 0) hx hb dX12_odds_70 (by decide) ?_
            refine lv_ladd hx hb dX12_odds_71 ?_
            refine lv_topl (fun x_10 ex_10 => ?_)
            refine lv_lstore_n (lv' := [(2, .long x_10), (4, .int (nI j1)), (0, .ref h), (1, .int n1)]) hx hb dX12_odds_72 rfl hl (by decide) rfl (fun ls hl => ?_)
            refine lv_iinc (v := nI (j1 + 1)) (lv' := [(4, .int (nI (j1 + 1))), (2, .long x_10), (0, .ref h), (1, .int n1)]) hx hb dX12_odds_73 hl (k := 1) rfl (nI_1 j1) (by decide) rfl (fun ls hl => ?_)
            refine lv_goto (tgt := 43) hx hb dX12_odds_76 (by decide) ?_
            exact ih43 (j1 + 1) x_10 H locs ls (by omega) (by omega)  (hP.sub [0, 1, 2, 3] rfl)  hS (lv_sub hl [0, 1, 2, 3] rfl)
          · refine lv_aload_n hx hb dX12_odds_61 rfl (lv_at hl 2 rfl) ?_
            refine lv_iload hx hb dX12_odds_62 (lv_at hl 0 rfl) ?_
            refine eRl (va_runV (As := [.int (nI j1)]) (rest := [.long w1]) ⟨hx, hb, hml, hown, hts⟩ (c_X12_oddsOf l D cI cB cZ cJ tx h q im m_says m_signSeen j1 (lf_X12_odds_11 h q im m_says m_isStory m_signSeen n1 c_1 j1 w1 k43 hj43 hk43 c_2 n_5 x_8 c_9) H.size) (zV hts k_2034 v_X12_oddsOf ⟨Nat.le_of_ble_eq_true rfl, Nat.le_of_ble_eq_true rfl⟩) (pV (pxS hK hP hD [0, 1, 3] (by decide) rfl) hK hP 0 rfl rfl) rfl rfl hl.1 rfl (lv_room (Nat.le_of_ble_eq_true rfl)) dX12_odds_64 ⟨Nat.le_of_ble_eq_true rfl, Nat.le_of_ble_eq_true rfl⟩) hP hS hA (fun r_12 H locs wr_12 hP hS => ?_)
            refine lv_goto (tgt := 71) hx hb dX12_odds_67 (by decide) ?_
            refine lv_ladd hx hb dX12_odds_71 ?_
            refine lv_topl (fun x_13 ex_13 => ?_)
            refine lv_lstore_n (lv' := [(2, .long x_13), (4, .int (nI j1)), (0, .ref h), (1, .int n1)]) hx hb dX12_odds_72 rfl hl (by decide) rfl (fun ls hl => ?_)
            refine lv_iinc (v := nI (j1 + 1)) (lv' := [(4, .int (nI (j1 + 1))), (2, .long x_13), (0, .ref h), (1, .int n1)]) hx hb dX12_odds_73 hl (k := 1) rfl (nI_1 j1) (by decide) rfl (fun ls hl => ?_)
            refine lv_goto (tgt := 43) hx hb dX12_odds_76 (by decide) ?_
            exact ih43 (j1 + 1) x_13 H locs ls (by omega) (by omega)  (hP.sub [0, 1, 2, 3] rfl)  hS (lv_sub hl [0, 1, 2, 3] rfl)
    exact lp43 (6 + 1) 0 0 H locs ls (by omega) (by omega)  (hP.sub [0, 1, 2, 3] rfl)  hS (lv_sub hl [0, 1, 2, 3] rfl)
  · refine lv_iload_n hx hb dX12_odds_5 rfl (lv_at hl 1 rfl) ?_
    refine lv_i2l (v := n1.toInt64) hx hb dX12_odds_6 rfl ?_
    refine lv_lconst (v := 0) hx hb dX12_odds_7 (by decide) ?_
    refine lv_ldc2 (v := 5) hx hb hown (hts _ k_2010) dX12_odds_8 ?_
    refine eRi (va_runS (As := [.long n1.toInt64, .long 0, .long 5]) (rest := []) ⟨hx, hb, hml, hown, hts⟩ (c_X12_isIn l D cI cB cZ cJ tx n1.toInt64 0 5 H.size) (zS hts k_1602 v_X12_isIn ⟨Nat.le_of_ble_eq_true rfl, Nat.le_of_ble_eq_true rfl⟩) (px0 hK) rfl rfl hl.1 rfl (lv_room (Nat.le_of_ble_eq_true rfl)) dX12_odds_11 ⟨Nat.le_of_ble_eq_true rfl, Nat.le_of_ble_eq_true rfl⟩) hP hS hA (fun r_14 H locs wr_14 hP hS => ?_)
    have wr_14 : r_14 = bi ((0 : Int32) ≤ n1 ∧ n1 ≤ 5) := isIn32 (lo := 0) (hi := 5) (by decide) (by decide) wr_14
    subst wr_14
    refine lv_bi_eq (tgt := 34) hx hb dX12_odds_14 (by decide) (fun c_15 => ?_) (fun c_15 => ?_)
    · refine lv_ldc2 (v := (-1)) hx hb hown (hts _ k_1950) dX12_odds_34 ?_
      exact W.lret (v := (-1)) hx hb hr (fun tt9 ht hW => ⟨⟨((-1) : Int64), (), rfl, trivial, trivial⟩, hS.F ht⟩) hS.2.2 dX12_odds_37 hlocks
    · obtain ⟨tn1, tn1a, tn1b, tn1e⟩ := of_rng 0 5 rfl rfl c_15
      subst tn1e
      refine lv_aload_n hx hb dX12_odds_17 rfl (lv_at hl 0 rfl) ?_
      refine va_get (D := D) (ci := 12) (v := .ref (q 76)) (C := RX12) (T := TX12) (N := 81) hx hb hts inT_X12 hown hK.1 hP 0 rfl rfl 76 (by decide) (hts _ k_1429) (fun _ h9 => h9) rfl dX12_odds_18 ?_
      refine lv_iload_n hx hb dX12_odds_21 rfl (lv_at hl 1 rfl) ?_
      refine ld_z hx hb hK hP 2 rfl (lf_X12_odds_16 h q im m_says m_isStory m_signSeen (nI tn1) c_1 c_15 tn1 tn1a tn1b rfl) dX12_odds_22 (fun x_17 => ?_)
      refine lv_if_eq (tgt := 34) hx hb dX12_odds_23 (by decide) (fun c_18 => ?_) (fun c_18 => ?_)
      · refine lv_ldc2 (v := (-1)) hx hb hown (hts _ k_1950) dX12_odds_34 ?_
        exact W.lret (v := (-1)) hx hb hr (fun tt9 ht hW => ⟨⟨((-1) : Int64), (), rfl, trivial, trivial⟩, hS.F ht⟩) hS.2.2 dX12_odds_37 hlocks
      · refine lv_aload_n hx hb dX12_odds_26 rfl (lv_at hl 0 rfl) ?_
        refine lv_iload_n hx hb dX12_odds_27 rfl (lv_at hl 1 rfl) ?_
        refine eRl (va_runV (As := [.int (nI tn1)]) (rest := []) ⟨hx, hb, hml, hown, hts⟩ (c_X12_oddsOf l D cI cB cZ cJ tx h q im m_says m_signSeen tn1 (lf_X12_odds_19 h q im m_says m_isStory m_signSeen (nI tn1) c_1 c_15 tn1 tn1a tn1b rfl x_17 c_18) H.size) (zV hts k_2034 v_X12_oddsOf ⟨Nat.le_of_ble_eq_true rfl, Nat.le_of_ble_eq_true rfl⟩) (pV (pxS hK hP hD [0, 1, 3] (by decide) rfl) hK hP 0 rfl rfl) rfl rfl hl.1 rfl (lv_room (Nat.le_of_ble_eq_true rfl)) dX12_odds_28 ⟨Nat.le_of_ble_eq_true rfl, Nat.le_of_ble_eq_true rfl⟩) hP hS hA (fun r_20 H locs wr_20 hP hS => ?_)
        refine lv_goto (tgt := 37) hx hb dX12_odds_31 (by decide) ?_
        exact W.lret (v := r_20) hx hb hr (fun tt9 ht hW => ⟨⟨(r_20 : Int64), (), rfl, trivial, trivial⟩, hS.F ht⟩) hS.2.2 dX12_odds_37 hlocks

theorem lf_X12_canBe_1 (h : Nat) (q : Nat → Nat) (im : Nat → Int32) (m_says : Nat → Int32) (m_isStory : Nat → Int32) (m_signSeen : Nat → Int32) (k1 : Nat) (hk1 : k1 < 6) : vp_in (nI k1) 6 := by
  first | exact vp_in_nI (by omega) (by decide) | (unfold vp_in; decide)
theorem lf_X12_canBe_4 (h : Nat) (q : Nat → Nat) (im : Nat → Int32) (m_says : Nat → Int32) (m_isStory : Nat → Int32) (m_signSeen : Nat → Int32) (k1 : Nat) (hk1 : k1 < 6) (x_2 : Int32) (c_3 : ¬ x_2 = 0) : k1 < 6 := by
  first | assumption | omega | decide | rfl
set_option maxHeartbeats 4000000 in
set_option maxRecDepth 100000 in
theorem c_X12_canBe (l : Launch) (D : va_G) (cI cB cZ cJ : ClassId) (tx : List (ClassId × FieldType)) (h : Nat) (q : Nat → Nat) (im : Nat → Int32) (m_says : Nat → Int32) (m_isStory : Nat → Int32) (m_signSeen : Nat → Int32) (k1 : Nat) (hk1 : k1 < 6) : RdI l D cI cB cZ cJ tx yX12_canBe cX12_canBe 2 (some .boolean) 1 [.ref h, .int (nI k1)] [(h, .inr (12, mG q im)), (q 75, .inl (cI, 36, .inl m_says)), (q 76, .inl (cZ, 6, .inl m_isStory)), (q 77, .inl (cI, 6, .inl m_signSeen))] (fun r => True) := by
  refine rdi_of2 (by decide) (Nat.le_of_ble_eq_true rfl) ?_
  intro p e s m below meth c A ls H locs hC hK hP hD hA hS hl
  obtain ⟨hx, hb, hr, hml, hown, hts, hlocks, hin⟩ := hC
  have hown : s.vm.findClass RX12 = some m.cls := hown
  have hl : lv_has ls 2 [(0, .ref h), (1, .int (nI k1))] := hl
  refine lv_aload_n hx hb dX12_canBe_0 rfl (lv_at hl 0 rfl) ?_
  refine va_get (D := D) (ci := 12) (v := .ref (q 76)) (C := RX12) (T := TX12) (N := 81) hx hb hts inT_X12 hown hK.1 hP 0 rfl rfl 76 (by decide) (hts _ k_1429) (fun _ h9 => h9) rfl dX12_canBe_1 ?_
  refine lv_iload_n hx hb dX12_canBe_4 rfl (lv_at hl 1 rfl) ?_
  refine ld_z hx hb hK hP 2 rfl (lf_X12_canBe_1 h q im m_says m_isStory m_signSeen k1 hk1) dX12_canBe_5 (fun x_2 => ?_)
  refine lv_if_eq (tgt := 23) hx hb dX12_canBe_6 (by decide) (fun c_3 => ?_) (fun c_3 => ?_)
  · refine lv_iconst (v := 0) hx hb dX12_canBe_23 (by decide) ?_
    exact W.zret (v := 0) hx hb hr (by decide) (fun tt9 ht hW => ⟨⟨(0 : Int32), (), rfl, trivial, trivial⟩, hS.F ht⟩) hS.2.2 dX12_canBe_24 hlocks
  · refine lv_aload_n hx hb dX12_canBe_9 rfl (lv_at hl 0 rfl) ?_
    refine lv_iload_n hx hb dX12_canBe_10 rfl (lv_at hl 1 rfl) ?_
    refine eRl (va_runV (As := [.int (nI k1)]) (rest := []) ⟨hx, hb, hml, hown, hts⟩ (c_X12_oddsOf l D cI cB cZ cJ tx h q im m_says m_signSeen k1 (lf_X12_canBe_4 h q im m_says m_isStory m_signSeen k1 hk1 x_2 c_3) H.size) (zV hts k_2034 v_X12_oddsOf ⟨Nat.le_of_ble_eq_true rfl, Nat.le_of_ble_eq_true rfl⟩) (pV (pxS hK hP hD [0, 1, 3] (by decide) rfl) hK hP 0 rfl rfl) rfl rfl hl.1 rfl (lv_room (Nat.le_of_ble_eq_true rfl)) dX12_canBe_11 ⟨Nat.le_of_ble_eq_true rfl, Nat.le_of_ble_eq_true rfl⟩) hP hS hA (fun r_5 H locs wr_5 hP hS => ?_)
    refine lv_lconst (v := 0) hx hb dX12_canBe_14 (by decide) ?_
    refine W.lcmp hx hb dX12_canBe_15 ?_
    refine lv_if_eq (tgt := 23) hx hb dX12_canBe_16 (by decide) (fun c_6 => ?_) (fun c_6 => ?_)
    · refine lv_iconst (v := 0) hx hb dX12_canBe_23 (by decide) ?_
      exact W.zret (v := 0) hx hb hr (by decide) (fun tt9 ht hW => ⟨⟨(0 : Int32), (), rfl, trivial, trivial⟩, hS.F ht⟩) hS.2.2 dX12_canBe_24 hlocks
    · refine lv_iconst (v := 1) hx hb dX12_canBe_19 (by decide) ?_
      refine lv_goto (tgt := 24) hx hb dX12_canBe_20 (by decide) ?_
      exact W.zret (v := 1) hx hb hr (by decide) (fun tt9 ht hW => ⟨⟨(1 : Int32), (), rfl, trivial, trivial⟩, hS.F ht⟩) hS.2.2 dX12_canBe_24 hlocks

theorem lf_X12_next_7 (h : Nat) (q : Nat → Nat) (im : Nat → Int32) (m_says : Nat → Int32) (m_isStory : Nat → Int32) (m_signSeen : Nat → Int32) (n1 : Int32) (c_2 : (0 : Int32) ≤ n1 ∧ n1 ≤ 1) (tn1 : Nat) (tn1a : 0 ≤ tn1) (tn1b : tn1 ≤ 1) (tn1e : n1 = nI tn1) (r_3 : Int32) (c_4 : ¬ r_3 = 0) (j1 : Nat) (w1 : Int32) (w2 : Int32) (k26 : Nat) (hj26 : j1 ≤ 6) (hk26 : 6 < j1 + (k26 + 1)) (c_5 : 6 ≤ nI j1) : 6 ≤ j1 := by
  exact (nI_leI (a := 6) (b := j1) (by omega) (by omega)).mp c_5
theorem lf_X12_next_11 (h : Nat) (q : Nat → Nat) (im : Nat → Int32) (m_says : Nat → Int32) (m_isStory : Nat → Int32) (m_signSeen : Nat → Int32) (n1 : Int32) (c_2 : (0 : Int32) ≤ n1 ∧ n1 ≤ 1) (tn1 : Nat) (tn1a : 0 ≤ tn1) (tn1b : tn1 ≤ 1) (tn1e : n1 = nI tn1) (r_3 : Int32) (c_4 : ¬ r_3 = 0) (j1 : Nat) (w1 : Int32) (w2 : Int32) (k26 : Nat) (hj26 : j1 ≤ 6) (hk26 : 6 < j1 + (k26 + 1)) (c_5 : 6 ≤ nI j1) (n_6 : 6 ≤ j1) (c_8 : ¬ w1 = (-1)) (c_9 : ¬ nI tn1 = 0) : tn1 ≠ 0 := by
  exact fun q => c_9 ((nI_eq (a := tn1) (b := 0) (by omega) (by omega)).mpr q)
theorem lf_X12_next_13 (h : Nat) (q : Nat → Nat) (im : Nat → Int32) (m_says : Nat → Int32) (m_isStory : Nat → Int32) (m_signSeen : Nat → Int32) (n1 : Int32) (c_2 : (0 : Int32) ≤ n1 ∧ n1 ≤ 1) (tn1 : Nat) (tn1a : 0 ≤ tn1) (tn1b : tn1 ≤ 1) (tn1e : n1 = nI tn1) (r_3 : Int32) (c_4 : ¬ r_3 = 0) (j1 : Nat) (w1 : Int32) (w2 : Int32) (k26 : Nat) (hj26 : j1 ≤ 6) (hk26 : 6 < j1 + (k26 + 1)) (c_5 : 6 ≤ nI j1) (n_6 : 6 ≤ j1) (c_8 : ¬ w1 = (-1)) (c_9 : nI tn1 = 0) : tn1 = 0 := by
  exact (nI_eq (a := tn1) (b := 0) (by omega) (by omega)).mp c_9
theorem lf_X12_next_15 (h : Nat) (q : Nat → Nat) (im : Nat → Int32) (m_says : Nat → Int32) (m_isStory : Nat → Int32) (m_signSeen : Nat → Int32) (n1 : Int32) (c_2 : (0 : Int32) ≤ n1 ∧ n1 ≤ 1) (tn1 : Nat) (tn1a : 0 ≤ tn1) (tn1b : tn1 ≤ 1) (tn1e : n1 = nI tn1) (r_3 : Int32) (c_4 : ¬ r_3 = 0) (j1 : Nat) (w1 : Int32) (w2 : Int32) (k26 : Nat) (hj26 : j1 ≤ 6) (hk26 : 6 < j1 + (k26 + 1)) (c_5 : ¬ 6 ≤ nI j1) : j1 < 6 := by
  exact Nat.lt_of_not_le (fun q => c_5 ((nI_leI (a := 6) (b := j1) (by omega) (by omega)).mpr q))
theorem lf_X12_next_16 (h : Nat) (q : Nat → Nat) (im : Nat → Int32) (m_says : Nat → Int32) (m_isStory : Nat → Int32) (m_signSeen : Nat → Int32) (n1 : Int32) (c_2 : (0 : Int32) ≤ n1 ∧ n1 ≤ 1) (tn1 : Nat) (tn1a : 0 ≤ tn1) (tn1b : tn1 ≤ 1) (tn1e : n1 = nI tn1) (r_3 : Int32) (c_4 : ¬ r_3 = 0) (j1 : Nat) (w1 : Int32) (w2 : Int32) (k26 : Nat) (hj26 : j1 ≤ 6) (hk26 : 6 < j1 + (k26 + 1)) (c_5 : ¬ 6 ≤ nI j1) (n_14 : j1 < 6) : vp_in (nI j1) 6 := by
  first | exact vp_in_nI (by omega) (by decide) | (unfold vp_in; decide)
theorem lf_X12_next_21 (h : Nat) (q : Nat → Nat) (im : Nat → Int32) (m_says : Nat → Int32) (m_isStory : Nat → Int32) (m_signSeen : Nat → Int32) (n1 : Int32) (c_2 : (0 : Int32) ≤ n1 ∧ n1 ≤ 1) (tn1 : Nat) (tn1a : 0 ≤ tn1) (tn1b : tn1 ≤ 1) (tn1e : n1 = nI tn1) (r_3 : Int32) (c_4 : ¬ r_3 = 0) (j1 : Nat) (w1 : Int32) (w2 : Int32) (k26 : Nat) (hj26 : j1 ≤ 6) (hk26 : 6 < j1 + (k26 + 1)) (c_5 : ¬ 6 ≤ nI j1) (n_14 : j1 < 6) (x_17 : Int32) (c_18 : x_17 = (-1)) (j2 : Nat) (w3 : Int32) (k53 : Nat) (hj53 : j2 ≤ 6) (hk53 : 6 < j2 + (k53 + 1)) (c_19 : 6 ≤ nI j2) : 6 ≤ j2 := by
  exact (nI_leI (a := 6) (b := j2) (by omega) (by omega)).mp c_19
theorem lf_X12_next_25 (h : Nat) (q : Nat → Nat) (im : Nat → Int32) (m_says : Nat → Int32) (m_isStory : Nat → Int32) (m_signSeen : Nat → Int32) (n1 : Int32) (c_2 : (0 : Int32) ≤ n1 ∧ n1 ≤ 1) (tn1 : Nat) (tn1a : 0 ≤ tn1) (tn1b : tn1 ≤ 1) (tn1e : n1 = nI tn1) (r_3 : Int32) (c_4 : ¬ r_3 = 0) (j1 : Nat) (w1 : Int32) (w2 : Int32) (k26 : Nat) (hj26 : j1 ≤ 6) (hk26 : 6 < j1 + (k26 + 1)) (c_5 : ¬ 6 ≤ nI j1) (n_14 : j1 < 6) (x_17 : Int32) (c_18 : x_17 = (-1)) (j2 : Nat) (w3 : Int32) (k53 : Nat) (hj53 : j2 ≤ 6) (hk53 : 6 < j2 + (k53 + 1)) (c_19 : ¬ 6 ≤ nI j2) : j2 < 6 := by
  exact Nat.lt_of_not_le (fun q => c_19 ((nI_leI (a := 6) (b := j2) (by omega) (by omega)).mpr q))
theorem lf_X12_next_28 (h : Nat) (q : Nat → Nat) (im : Nat → Int32) (m_says : Nat → Int32) (m_isStory : Nat → Int32) (m_signSeen : Nat → Int32) (n1 : Int32) (c_2 : (0 : Int32) ≤ n1 ∧ n1 ≤ 1) (tn1 : Nat) (tn1a : 0 ≤ tn1) (tn1b : tn1 ≤ 1) (tn1e : n1 = nI tn1) (r_3 : Int32) (c_4 : ¬ r_3 = 0) (j1 : Nat) (w1 : Int32) (w2 : Int32) (k26 : Nat) (hj26 : j1 ≤ 6) (hk26 : 6 < j1 + (k26 + 1)) (c_5 : ¬ 6 ≤ nI j1) (n_14 : j1 < 6) (x_17 : Int32) (c_18 : x_17 = (-1)) (j2 : Nat) (w3 : Int32) (k53 : Nat) (hj53 : j2 ≤ 6) (hk53 : 6 < j2 + (k53 + 1)) (c_19 : ¬ 6 ≤ nI j2) (n_24 : j2 < 6) (j3 : Nat) (w4 : Int32) (k63 : Nat) (hj63 : j3 ≤ j2) (hk63 : j2 < j3 + (k63 + 1)) (c_26 : nI j2 ≤ nI j3) : j2 ≤ j3 := by
  exact (nI_leI (a := j2) (b := j3) (by omega) (by omega)).mp c_26
theorem lf_X12_next_30 (h : Nat) (q : Nat → Nat) (im : Nat → Int32) (m_says : Nat → Int32) (m_isStory : Nat → Int32) (m_signSeen : Nat → Int32) (n1 : Int32) (c_2 : (0 : Int32) ≤ n1 ∧ n1 ≤ 1) (tn1 : Nat) (tn1a : 0 ≤ tn1) (tn1b : tn1 ≤ 1) (tn1e : n1 = nI tn1) (r_3 : Int32) (c_4 : ¬ r_3 = 0) (j1 : Nat) (w1 : Int32) (w2 : Int32) (k26 : Nat) (hj26 : j1 ≤ 6) (hk26 : 6 < j1 + (k26 + 1)) (c_5 : ¬ 6 ≤ nI j1) (n_14 : j1 < 6) (x_17 : Int32) (c_18 : x_17 = (-1)) (j2 : Nat) (w3 : Int32) (k53 : Nat) (hj53 : j2 ≤ 6) (hk53 : 6 < j2 + (k53 + 1)) (c_19 : ¬ 6 ≤ nI j2) (n_24 : j2 < 6) (j3 : Nat) (w4 : Int32) (k63 : Nat) (hj63 : j3 ≤ j2) (hk63 : j2 < j3 + (k63 + 1)) (c_26 : ¬ nI j2 ≤ nI j3) : j3 < j2 := by
  exact Nat.lt_of_not_le (fun q => c_26 ((nI_leI (a := j2) (b := j3) (by omega) (by omega)).mpr q))
theorem lf_X12_next_31 (h : Nat) (q : Nat → Nat) (im : Nat → Int32) (m_says : Nat → Int32) (m_isStory : Nat → Int32) (m_signSeen : Nat → Int32) (n1 : Int32) (c_2 : (0 : Int32) ≤ n1 ∧ n1 ≤ 1) (tn1 : Nat) (tn1a : 0 ≤ tn1) (tn1b : tn1 ≤ 1) (tn1e : n1 = nI tn1) (r_3 : Int32) (c_4 : ¬ r_3 = 0) (j1 : Nat) (w1 : Int32) (w2 : Int32) (k26 : Nat) (hj26 : j1 ≤ 6) (hk26 : 6 < j1 + (k26 + 1)) (c_5 : ¬ 6 ≤ nI j1) (n_14 : j1 < 6) (x_17 : Int32) (c_18 : x_17 = (-1)) (j2 : Nat) (w3 : Int32) (k53 : Nat) (hj53 : j2 ≤ 6) (hk53 : 6 < j2 + (k53 + 1)) (c_19 : ¬ 6 ≤ nI j2) (n_24 : j2 < 6) (j3 : Nat) (w4 : Int32) (k63 : Nat) (hj63 : j3 ≤ j2) (hk63 : j2 < j3 + (k63 + 1)) (c_26 : ¬ nI j2 ≤ nI j3) (n_29 : j3 < j2) : j2 < 6 := by
  first | assumption | omega | decide | rfl
theorem lf_X12_next_35 (h : Nat) (q : Nat → Nat) (im : Nat → Int32) (m_says : Nat → Int32) (m_isStory : Nat → Int32) (m_signSeen : Nat → Int32) (n1 : Int32) (c_2 : (0 : Int32) ≤ n1 ∧ n1 ≤ 1) (tn1 : Nat) (tn1a : 0 ≤ tn1) (tn1b : tn1 ≤ 1) (tn1e : n1 = nI tn1) (r_3 : Int32) (c_4 : ¬ r_3 = 0) (j1 : Nat) (w1 : Int32) (w2 : Int32) (k26 : Nat) (hj26 : j1 ≤ 6) (hk26 : 6 < j1 + (k26 + 1)) (c_5 : ¬ 6 ≤ nI j1) (n_14 : j1 < 6) (x_17 : Int32) (c_18 : x_17 = (-1)) (j2 : Nat) (w3 : Int32) (k53 : Nat) (hj53 : j2 ≤ 6) (hk53 : 6 < j2 + (k53 + 1)) (c_19 : ¬ 6 ≤ nI j2) (n_24 : j2 < 6) (j3 : Nat) (w4 : Int32) (k63 : Nat) (hj63 : j3 ≤ j2) (hk63 : j2 < j3 + (k63 + 1)) (c_26 : ¬ nI j2 ≤ nI j3) (n_29 : j3 < j2) (r_32 : Int32) (c_33 : ¬ r_32 = 0) : j3 < 6 := by
  first | assumption | omega | decide | rfl
theorem lf_X12_next_39 (h : Nat) (q : Nat → Nat) (im : Nat → Int32) (m_says : Nat → Int32) (m_isStory : Nat → Int32) (m_signSeen : Nat → Int32) (n1 : Int32) (c_2 : (0 : Int32) ≤ n1 ∧ n1 ≤ 1) (tn1 : Nat) (tn1a : 0 ≤ tn1) (tn1b : tn1 ≤ 1) (tn1e : n1 = nI tn1) (r_3 : Int32) (c_4 : ¬ r_3 = 0) (j1 : Nat) (w1 : Int32) (w2 : Int32) (k26 : Nat) (hj26 : j1 ≤ 6) (hk26 : 6 < j1 + (k26 + 1)) (c_5 : ¬ 6 ≤ nI j1) (n_14 : j1 < 6) (x_17 : Int32) (c_18 : x_17 = (-1)) (j2 : Nat) (w3 : Int32) (k53 : Nat) (hj53 : j2 ≤ 6) (hk53 : 6 < j2 + (k53 + 1)) (c_19 : ¬ 6 ≤ nI j2) (n_24 : j2 < 6) (j3 : Nat) (w4 : Int32) (k63 : Nat) (hj63 : j3 ≤ j2) (hk63 : j2 < j3 + (k63 + 1)) (c_26 : ¬ nI j2 ≤ nI j3) (n_29 : j3 < j2) (r_32 : Int32) (c_33 : ¬ r_32 = 0) (r_36 : Int32) (c_37 : ¬ r_36 = 0) : vp_in (nI ((6 * j2) + j1)) 36 := by
  first | exact vp_in_nI (by omega) (by decide) | (unfold vp_in; decide)
theorem lf_X12_next_41 (h : Nat) (q : Nat → Nat) (im : Nat → Int32) (m_says : Nat → Int32) (m_isStory : Nat → Int32) (m_signSeen : Nat → Int32) (n1 : Int32) (c_2 : (0 : Int32) ≤ n1 ∧ n1 ≤ 1) (tn1 : Nat) (tn1a : 0 ≤ tn1) (tn1b : tn1 ≤ 1) (tn1e : n1 = nI tn1) (r_3 : Int32) (c_4 : ¬ r_3 = 0) (j1 : Nat) (w1 : Int32) (w2 : Int32) (k26 : Nat) (hj26 : j1 ≤ 6) (hk26 : 6 < j1 + (k26 + 1)) (c_5 : ¬ 6 ≤ nI j1) (n_14 : j1 < 6) (x_17 : Int32) (c_18 : x_17 = (-1)) (j2 : Nat) (w3 : Int32) (k53 : Nat) (hj53 : j2 ≤ 6) (hk53 : 6 < j2 + (k53 + 1)) (c_19 : ¬ 6 ≤ nI j2) (n_24 : j2 < 6) (j3 : Nat) (w4 : Int32) (k63 : Nat) (hj63 : j3 ≤ j2) (hk63 : j2 < j3 + (k63 + 1)) (c_26 : ¬ nI j2 ≤ nI j3) (n_29 : j3 < j2) (r_32 : Int32) (c_33 : ¬ r_32 = 0) (r_36 : Int32) (c_37 : ¬ r_36 = 0) (x_40 : Int32) : vp_in (nI ((6 * j3) + j1)) 36 := by
  first | exact vp_in_nI (by omega) (by decide) | (unfold vp_in; decide)
set_option maxHeartbeats 4000000 in
set_option maxRecDepth 100000 in
theorem c_X12_next (l : Launch) (D : va_G) (cI cB cZ cJ : ClassId) (tx : List (ClassId × FieldType)) (h : Nat) (q : Nat → Nat) (im : Nat → Int32) (m_says : Nat → Int32) (m_isStory : Nat → Int32) (m_signSeen : Nat → Int32) (n1 : Int32) : RdI l D cI cB cZ cJ tx yX12_next cX12_next 8 (some .int) 2 [.ref h, .int n1] [(h, .inr (12, mG q im)), (q 75, .inl (cI, 36, .inl m_says)), (q 76, .inl (cZ, 6, .inl m_isStory)), (q 77, .inl (cI, 6, .inl m_signSeen))] (fun r => True) := by
  refine rdi_of2 (by decide) (Nat.le_of_ble_eq_true rfl) ?_
  intro p e s m below meth c A ls H locs hC hK hP hD hA hS hl
  obtain ⟨hx, hb, hr, hml, hown, hts, hlocks, hin⟩ := hC
  have hown : s.vm.findClass RX12 = some m.cls := hown
  have hl : lv_has ls 8 [(0, .ref h), (1, .int n1)] := hl
  refine lv_iload_n hx hb dX12_next_0 rfl (lv_at hl 1 rfl) ?_
  refine lv_i2l (v := n1.toInt64) hx hb dX12_next_1 rfl ?_
  refine lv_lconst (v := 0) hx hb dX12_next_2 (by decide) ?_
  refine lv_lconst (v := 1) hx hb dX12_next_3 (by decide) ?_
  refine eRi (va_runS (As := [.long n1.toInt64, .long 0, .long 1]) (rest := []) ⟨hx, hb, hml, hown, hts⟩ (c_X12_isIn l D cI cB cZ cJ tx n1.toInt64 0 1 H.size) (zS hts k_1602 v_X12_isIn ⟨Nat.le_of_ble_eq_true rfl, Nat.le_of_ble_eq_true rfl⟩) (px0 hK) rfl rfl hl.1 rfl (lv_room (Nat.le_of_ble_eq_true rfl)) dX12_next_4 ⟨Nat.le_of_ble_eq_true rfl, Nat.le_of_ble_eq_true rfl⟩) hP hS hA (fun r_1 H locs wr_1 hP hS => ?_)
  have wr_1 : r_1 = bi ((0 : Int32) ≤ n1 ∧ n1 ≤ 1) := isIn32 (lo := 0) (hi := 1) (by decide) (by decide) wr_1
  subst wr_1
  refine lv_bi_eq (tgt := 17) hx hb dX12_next_7 (by decide) (fun c_2 => ?_) (fun c_2 => ?_)
  · refine lv_iconst (v := (-1)) hx hb dX12_next_17 (by decide) ?_
    exact W.iret (v := (-1)) hx hb hr (fun tt9 ht hW => ⟨⟨((-1) : Int32), (), rfl, trivial, trivial⟩, hS.F ht⟩) hS.2.2 dX12_next_18 hlocks
  · obtain ⟨tn1, tn1a, tn1b, tn1e⟩ := of_rng 0 1 rfl rfl c_2
    subst tn1e
    refine lv_aload_n hx hb dX12_next_10 rfl (lv_at hl 0 rfl) ?_
    refine eRi (va_runV (As := []) (rest := []) ⟨hx, hb, hml, hown, hts⟩ (c_X12_storiesTold l D cI cB cZ cJ tx h q im m_isStory H.size) (zV hts k_2042 v_X12_storiesTold ⟨Nat.le_of_ble_eq_true rfl, Nat.le_of_ble_eq_true rfl⟩) (pV (pxS hK hP hD [0, 2] (by decide) rfl) hK hP 0 rfl rfl) rfl rfl hl.1 rfl (lv_room (Nat.le_of_ble_eq_true rfl)) dX12_next_11 ⟨Nat.le_of_ble_eq_true rfl, Nat.le_of_ble_eq_true rfl⟩) hP hS hA (fun r_3 H locs wr_3 hP hS => ?_)
    refine lv_if_ne (tgt := 19) hx hb dX12_next_14 (by decide) (fun c_4 => ?_) (fun c_4 => ?_)
    · refine lv_iconst (v := (-1)) hx hb dX12_next_19 (by decide) ?_
      refine lv_istore_n (lv' := [(2, .int (-1)), (0, .ref h), (1, .int (nI tn1))]) hx hb dX12_next_20 rfl hl (by decide) rfl (fun ls hl => ?_)
      refine lv_iconst (v := 0) hx hb dX12_next_21 (by decide) ?_
      refine lv_istore_n (lv' := [(3, .int 0), (2, .int (-1)), (0, .ref h), (1, .int (nI tn1))]) hx hb dX12_next_22 rfl hl (by decide) rfl (fun ls hl => ?_)
      refine lv_iconst (v := 0) hx hb dX12_next_23 (by decide) ?_
      refine lv_istore (lv' := [(4, .int 0), (3, .int 0), (2, .int (-1)), (0, .ref h), (1, .int (nI tn1))]) hx hb dX12_next_24 hl (by decide) rfl (fun ls hl => ?_)
      have lp26 : ∀ (k26 : Nat) (j1 : Nat) (w1 : Int32) (w2 : Int32) (H : Heap) (locs : List Loc) (ls : Array Slot), j1 ≤ 6 → 6 < j1 + k26 → va_P D vwCl [(h, .inr (12, mG q im)), (q 75, .inl (cI, 36, .inl m_says)), (q 76, .inl (cZ, 6, .inl m_isStory)), (q 77, .inl (cI, 6, .inl m_signSeen))] H → va_S A s.heap H locs → lv_has ls 8 [(4, .int (nI j1)), (3, .int w2), (2, .int w1), (0, .ref h), (1, .int (nI tn1))] → W p l e (rmX 2 0 0) s m ([.ref h, .int (nI tn1)] : List Value).toArray below meth c H locs 0 0 (MQ below (va_Qi (fun r (_ : Unit) => (fun r => True) r) (fun _ _ => True) A) ([.ref h, .int (nI tn1)] : List Value).toArray s 0 0 A) (F0 m 26 ls []) := by
        intro k26
        induction k26 with
        | zero =>
          intro j1 w1 w2 H locs ls hj26 hk26  hP hS hl
          exact absurd hk26 (by omega)
        | succ k26 ih26 =>
          intro j1 w1 w2 H locs ls hj26 hk26  hP hS hl
          refine lv_iload hx hb dX12_next_26 (lv_at hl 0 rfl) ?_
          refine lv_bipush (v := 6) hx hb dX12_next_28 (by decide) ?_
          refine lv_icmp_ge (tgt := 165) hx hb dX12_next_30 (by decide) (fun c_5 => ?_) (fun c_5 => ?_)
          · have n_6 : 6 ≤ j1 := (lf_X12_next_7 h q im m_says m_isStory m_signSeen (nI tn1) c_2 tn1 tn1a tn1b rfl r_3 c_4 j1 w1 w2 k26 hj26 hk26 c_5)
            refine lv_iload_n hx hb dX12_next_165 rfl (lv_at hl 2 rfl) ?_
            refine lv_iconst (v := (-1)) hx hb dX12_next_166 (by decide) ?_
            refine lv_icmp_eq (tgt := 174) hx hb dX12_next_167 (by decide) (fun c_8 => ?_) (fun c_8 => ?_)
            · refine lv_iload_n hx hb dX12_next_174 rfl (lv_at hl 2 rfl) ?_
              refine lv_goto (tgt := 179) hx hb dX12_next_175 (by decide) ?_
              exact W.iret (v := w1) hx hb hr (fun tt9 ht hW => ⟨⟨(w1 : Int32), (), rfl, trivial, trivial⟩, hS.F ht⟩) hS.2.2 dX12_next_179 hlocks
            · refine lv_iload_n hx hb dX12_next_170 rfl (lv_at hl 4 rfl) ?_
              refine lv_if_ne (tgt := 178) hx hb dX12_next_171 (by decide) (fun c_9 => ?_) (fun c_9 => ?_)
              · have n_10 : tn1 ≠ 0 := (lf_X12_next_11 h q im m_says m_isStory m_signSeen (nI tn1) c_2 tn1 tn1a tn1b rfl r_3 c_4 j1 w1 w2 k26 hj26 hk26 c_5 n_6 c_8 c_9)
                refine lv_iload_n hx hb dX12_next_178 rfl (lv_at hl 1 rfl) ?_
                exact W.iret (v := w2) hx hb hr (fun tt9 ht hW => ⟨⟨(w2 : Int32), (), rfl, trivial, trivial⟩, hS.F ht⟩) hS.2.2 dX12_next_179 hlocks
              · have n_12 : tn1 = 0 := (lf_X12_next_13 h q im m_says m_isStory m_signSeen (nI tn1) c_2 tn1 tn1a tn1b rfl r_3 c_4 j1 w1 w2 k26 hj26 hk26 c_5 n_6 c_8 c_9)
                refine lv_iload_n hx hb dX12_next_174 rfl (lv_at hl 2 rfl) ?_
                refine lv_goto (tgt := 179) hx hb dX12_next_175 (by decide) ?_
                exact W.iret (v := w1) hx hb hr (fun tt9 ht hW => ⟨⟨(w1 : Int32), (), rfl, trivial, trivial⟩, hS.F ht⟩) hS.2.2 dX12_next_179 hlocks
          · have n_14 : j1 < 6 := (lf_X12_next_15 h q im m_says m_isStory m_signSeen (nI tn1) c_2 tn1 tn1a tn1b rfl r_3 c_4 j1 w1 w2 k26 hj26 hk26 c_5)
            refine lv_aload_n hx hb dX12_next_33 rfl (lv_at hl 3 rfl) ?_
            refine va_get (D := D) (ci := 12) (v := .ref (q 77)) (C := RX12) (T := TX12) (N := 81) hx hb hts inT_X12 hown hK.1 hP 0 rfl rfl 77 (by decide) (hts _ k_1430) (fun _ h9 => h9) rfl dX12_next_34 ?_
            refine lv_iload hx hb dX12_next_37 (lv_at hl 0 rfl) ?_
            refine ld_i hx hb hK hP 3 rfl (lf_X12_next_16 h q im m_says m_isStory m_signSeen (nI tn1) c_2 tn1 tn1a tn1b rfl r_3 c_4 j1 w1 w2 k26 hj26 hk26 c_5 n_14) dX12_next_39 (fun x_17 => ?_)
            refine lv_iconst (v := (-1)) hx hb dX12_next_40 (by decide) ?_
            refine lv_icmp_eq (tgt := 47) hx hb dX12_next_41 (by decide) (fun c_18 => ?_) (fun c_18 => ?_)
            · refine lv_iconst (v := 0) hx hb dX12_next_47 (by decide) ?_
              refine lv_istore (lv' := [(5, .int 0), (4, .int (nI j1)), (3, .int w2), (2, .int w1), (0, .ref h), (1, .int (nI tn1))]) hx hb dX12_next_48 hl (by decide) rfl (fun ls hl => ?_)
              refine lv_iconst (v := 0) hx hb dX12_next_50 (by decide) ?_
              refine lv_istore (lv' := [(6, .int 0), (5, .int 0), (4, .int (nI j1)), (3, .int w2), (2, .int w1), (0, .ref h), (1, .int (nI tn1))]) hx hb dX12_next_51 hl (by decide) rfl (fun ls hl => ?_)
              have lp53 : ∀ (k53 : Nat) (j2 : Nat) (w3 : Int32) (H : Heap) (locs : List Loc) (ls : Array Slot), j2 ≤ 6 → 6 < j2 + k53 → va_P D vwCl [(h, .inr (12, mG q im)), (q 75, .inl (cI, 36, .inl m_says)), (q 76, .inl (cZ, 6, .inl m_isStory)), (q 77, .inl (cI, 6, .inl m_signSeen))] H → va_S A s.heap H locs → lv_has ls 8 [(6, .int (nI j2)), (5, .int w3), (4, .int (nI j1)), (3, .int w2), (2, .int w1), (0, .ref h), (1, .int (nI tn1))] → W p l e (rmX 2 0 0) s m ([.ref h, .int (nI tn1)] : List Value).toArray below meth c H locs 0 0 (MQ below (va_Qi (fun r (_ : Unit) => (fun r => True) r) (fun _ _ => True) A) ([.ref h, .int (nI tn1)] : List Value).toArray s 0 0 A) (F0 m 53 ls []) := by
                intro k53
                induction k53 with
                | zero =>
                  intro j2 w3 H locs ls hj53 hk53  hP hS hl
                  exact absurd hk53 (by omega)
                | succ k53 ih53 =>
                  intro j2 w3 H locs ls hj53 hk53  hP hS hl
                  refine lv_iload hx hb dX12_next_53 (lv_at hl 0 rfl) ?_
                  refine lv_bipush (v := 6) hx hb dX12_next_55 (by decide) ?_
                  refine lv_icmp_ge (tgt := 139) hx hb dX12_next_57 (by decide) (fun c_19 => ?_) (fun c_19 => ?_)
                  · have n_20 : 6 ≤ j2 := (lf_X12_next_21 h q im m_says m_isStory m_signSeen (nI tn1) c_2 tn1 tn1a tn1b rfl r_3 c_4 j1 w1 w2 k26 hj26 hk26 c_5 n_14 x_17 c_18 j2 w3 k53 hj53 hk53 c_19)
                    refine lv_iload_n hx hb dX12_next_139 rfl (lv_at hl 4 rfl) ?_
                    refine lv_iconst (v := (-1)) hx hb dX12_next_140 (by decide) ?_
                    refine lv_icmp_eq (tgt := 153) hx hb dX12_next_141 (by decide) (fun c_22 => ?_) (fun c_22 => ?_)
                    · refine lv_iload hx hb dX12_next_153 (lv_at hl 2 rfl) ?_
                      refine lv_istore_n (lv' := [(2, .int (nI j1)), (6, .int (nI j2)), (5, .int w3), (4, .int (nI j1)), (3, .int w2), (0, .ref h), (1, .int (nI tn1))]) hx hb dX12_next_155 rfl hl (by decide) rfl (fun ls hl => ?_)
                      refine lv_iload hx hb dX12_next_156 (lv_at hl 2 rfl) ?_
                      refine lv_istore_n (lv' := [(3, .int w3), (2, .int (nI j1)), (6, .int (nI j2)), (5, .int w3), (4, .int (nI j1)), (0, .ref h), (1, .int (nI tn1))]) hx hb dX12_next_158 rfl hl (by decide) rfl (fun ls hl => ?_)
                      refine lv_iinc (v := nI (j1 + 1)) (lv' := [(4, .int (nI (j1 + 1))), (3, .int w3), (2, .int (nI j1)), (6, .int (nI j2)), (5, .int w3), (0, .ref h), (1, .int (nI tn1))]) hx hb dX12_next_159 hl (k := 4) rfl (nI_1 j1) (by decide) rfl (fun ls hl => ?_)
                      refine lv_goto (tgt := 26) hx hb dX12_next_162 (by decide) ?_
                      exact ih26 (j1 + 1) (nI j1) w3 H locs ls (by omega) (by omega)  (hP.sub [0, 1, 2, 3] rfl)  hS (lv_sub hl [0, 1, 2, 5, 6] rfl)
                    · refine lv_iload hx hb dX12_next_144 (lv_at hl 1 rfl) ?_
                      refine lv_iload_n hx hb dX12_next_146 rfl (lv_at hl 3 rfl) ?_
                      refine lv_icmp_gt (tgt := 153) hx hb dX12_next_147 (by decide) (fun c_23 => ?_) (fun c_23 => ?_)
                      · refine lv_iload hx hb dX12_next_153 (lv_at hl 2 rfl) ?_
                        refine lv_istore_n (lv' := [(2, .int (nI j1)), (6, .int (nI j2)), (5, .int w3), (4, .int (nI j1)), (3, .int w2), (0, .ref h), (1, .int (nI tn1))]) hx hb dX12_next_155 rfl hl (by decide) rfl (fun ls hl => ?_)
                        refine lv_iload hx hb dX12_next_156 (lv_at hl 2 rfl) ?_
                        refine lv_istore_n (lv' := [(3, .int w3), (2, .int (nI j1)), (6, .int (nI j2)), (5, .int w3), (4, .int (nI j1)), (0, .ref h), (1, .int (nI tn1))]) hx hb dX12_next_158 rfl hl (by decide) rfl (fun ls hl => ?_)
                        refine lv_iinc (v := nI (j1 + 1)) (lv' := [(4, .int (nI (j1 + 1))), (3, .int w3), (2, .int (nI j1)), (6, .int (nI j2)), (5, .int w3), (0, .ref h), (1, .int (nI tn1))]) hx hb dX12_next_159 hl (k := 4) rfl (nI_1 j1) (by decide) rfl (fun ls hl => ?_)
                        refine lv_goto (tgt := 26) hx hb dX12_next_162 (by decide) ?_
                        exact ih26 (j1 + 1) (nI j1) w3 H locs ls (by omega) (by omega)  (hP.sub [0, 1, 2, 3] rfl)  hS (lv_sub hl [0, 1, 2, 5, 6] rfl)
                      · refine lv_goto (tgt := 159) hx hb dX12_next_150 (by decide) ?_
                        refine lv_iinc (v := nI (j1 + 1)) (lv' := [(4, .int (nI (j1 + 1))), (6, .int (nI j2)), (5, .int w3), (3, .int w2), (2, .int w1), (0, .ref h), (1, .int (nI tn1))]) hx hb dX12_next_159 hl (k := 2) rfl (nI_1 j1) (by decide) rfl (fun ls hl => ?_)
                        refine lv_goto (tgt := 26) hx hb dX12_next_162 (by decide) ?_
                        exact ih26 (j1 + 1) w1 w2 H locs ls (by omega) (by omega)  (hP.sub [0, 1, 2, 3] rfl)  hS (lv_sub hl [0, 3, 4, 5, 6] rfl)
                  · have n_24 : j2 < 6 := (lf_X12_next_25 h q im m_says m_isStory m_signSeen (nI tn1) c_2 tn1 tn1a tn1b rfl r_3 c_4 j1 w1 w2 k26 hj26 hk26 c_5 n_14 x_17 c_18 j2 w3 k53 hj53 hk53 c_19)
                    refine lv_iconst (v := 0) hx hb dX12_next_60 (by decide) ?_
                    refine lv_istore (lv' := [(7, .int 0), (6, .int (nI j2)), (5, .int w3), (4, .int (nI j1)), (3, .int w2), (2, .int w1), (0, .ref h), (1, .int (nI tn1))]) hx hb dX12_next_61 hl (by decide) rfl (fun ls hl => ?_)
                    have lp63 : ∀ (k63 : Nat) (j3 : Nat) (w4 : Int32) (H : Heap) (locs : List Loc) (ls : Array Slot), j3 ≤ j2 → j2 < j3 + k63 → va_P D vwCl [(h, .inr (12, mG q im)), (q 75, .inl (cI, 36, .inl m_says)), (q 76, .inl (cZ, 6, .inl m_isStory)), (q 77, .inl (cI, 6, .inl m_signSeen))] H → va_S A s.heap H locs → lv_has ls 8 [(7, .int (nI j3)), (6, .int (nI j2)), (5, .int w4), (4, .int (nI j1)), (3, .int w2), (2, .int w1), (0, .ref h), (1, .int (nI tn1))] → W p l e (rmX 2 0 0) s m ([.ref h, .int (nI tn1)] : List Value).toArray below meth c H locs 0 0 (MQ below (va_Qi (fun r (_ : Unit) => (fun r => True) r) (fun _ _ => True) A) ([.ref h, .int (nI tn1)] : List Value).toArray s 0 0 A) (F0 m 63 ls []) := by
                      intro k63
                      induction k63 with
                      | zero =>
                        intro j3 w4 H locs ls hj63 hk63  hP hS hl
                        exact absurd hk63 (by omega)
                      | succ k63 ih63 =>
                        intro j3 w4 H locs ls hj63 hk63  hP hS hl
                        refine lv_iload hx hb dX12_next_63 (lv_at hl 0 rfl) ?_
                        refine lv_iload hx hb dX12_next_65 (lv_at hl 1 rfl) ?_
                        refine lv_icmp_ge (tgt := 133) hx hb dX12_next_67 (by decide) (fun c_26 => ?_) (fun c_26 => ?_)
                        · have n_27 : j2 ≤ j3 := (lf_X12_next_28 h q im m_says m_isStory m_signSeen (nI tn1) c_2 tn1 tn1a tn1b rfl r_3 c_4 j1 w1 w2 k26 hj26 hk26 c_5 n_14 x_17 c_18 j2 w3 k53 hj53 hk53 c_19 n_24 j3 w4 k63 hj63 hk63 c_26)
                          refine lv_iinc (v := nI (j2 + 1)) (lv' := [(6, .int (nI (j2 + 1))), (7, .int (nI j3)), (5, .int w4), (4, .int (nI j1)), (3, .int w2), (2, .int w1), (0, .ref h), (1, .int (nI tn1))]) hx hb dX12_next_133 hl (k := 1) rfl (nI_1 j2) (by decide) rfl (fun ls hl => ?_)
                          refine lv_goto (tgt := 53) hx hb dX12_next_136 (by decide) ?_
                          exact ih53 (j2 + 1) w4 H locs ls (by omega) (by omega)  (hP.sub [0, 1, 2, 3] rfl)  hS (lv_sub hl [0, 2, 3, 4, 5, 6, 7] rfl)
                        · have n_29 : j3 < j2 := (lf_X12_next_30 h q im m_says m_isStory m_signSeen (nI tn1) c_2 tn1 tn1a tn1b rfl r_3 c_4 j1 w1 w2 k26 hj26 hk26 c_5 n_14 x_17 c_18 j2 w3 k53 hj53 hk53 c_19 n_24 j3 w4 k63 hj63 hk63 c_26)
                          refine lv_iload hx hb dX12_next_70 (lv_at hl 2 rfl) ?_
                          refine lv_aload_n hx hb dX12_next_72 rfl (lv_at hl 6 rfl) ?_
                          refine lv_iload hx hb dX12_next_73 (lv_at hl 1 rfl) ?_
                          refine eRi (va_runV (As := [.int (nI j2)]) (rest := [.int w4]) ⟨hx, hb, hml, hown, hts⟩ (c_X12_canBe l D cI cB cZ cJ tx h q im m_says m_isStory m_signSeen j2 (lf_X12_next_31 h q im m_says m_isStory m_signSeen (nI tn1) c_2 tn1 tn1a tn1b rfl r_3 c_4 j1 w1 w2 k26 hj26 hk26 c_5 n_14 x_17 c_18 j2 w3 k53 hj53 hk53 c_19 n_24 j3 w4 k63 hj63 hk63 c_26 n_29) H.size) (zV hts k_2046 v_X12_canBe ⟨Nat.le_of_ble_eq_true rfl, Nat.le_of_ble_eq_true rfl⟩) (pV (pxS hK hP hD [0, 1, 2, 3] (by decide) rfl) hK hP 0 rfl rfl) rfl rfl hl.1 rfl (lv_room (Nat.le_of_ble_eq_true rfl)) dX12_next_75 ⟨Nat.le_of_ble_eq_true rfl, Nat.le_of_ble_eq_true rfl⟩) hP hS hA (fun r_32 H locs wr_32 hP hS => ?_)
                          refine lv_if_eq (tgt := 123) hx hb dX12_next_78 (by decide) (fun c_33 => ?_) (fun c_33 => ?_)
                          · refine lv_iconst (v := 0) hx hb dX12_next_123 (by decide) ?_
                            refine lv_iadd hx hb dX12_next_124 ?_
                            refine lv_topi (fun x_34 ex_34 => ?_)
                            refine lv_istore (lv' := [(5, .int x_34), (7, .int (nI j3)), (6, .int (nI j2)), (4, .int (nI j1)), (3, .int w2), (2, .int w1), (0, .ref h), (1, .int (nI tn1))]) hx hb dX12_next_125 hl (by decide) rfl (fun ls hl => ?_)
                            refine lv_iinc (v := nI (j3 + 1)) (lv' := [(7, .int (nI (j3 + 1))), (5, .int x_34), (6, .int (nI j2)), (4, .int (nI j1)), (3, .int w2), (2, .int w1), (0, .ref h), (1, .int (nI tn1))]) hx hb dX12_next_127 hl (k := 1) rfl (nI_1 j3) (by decide) rfl (fun ls hl => ?_)
                            refine lv_goto (tgt := 63) hx hb dX12_next_130 (by decide) ?_
                            exact ih63 (j3 + 1) x_34 H locs ls (by omega) (by omega)  (hP.sub [0, 1, 2, 3] rfl)  hS (lv_sub hl [0, 2, 1, 3, 4, 5, 6, 7] rfl)
                          · refine lv_aload_n hx hb dX12_next_81 rfl (lv_at hl 6 rfl) ?_
                            refine lv_iload hx hb dX12_next_82 (lv_at hl 0 rfl) ?_
                            refine eRi (va_runV (As := [.int (nI j3)]) (rest := [.int w4]) ⟨hx, hb, hml, hown, hts⟩ (c_X12_canBe l D cI cB cZ cJ tx h q im m_says m_isStory m_signSeen j3 (lf_X12_next_35 h q im m_says m_isStory m_signSeen (nI tn1) c_2 tn1 tn1a tn1b rfl r_3 c_4 j1 w1 w2 k26 hj26 hk26 c_5 n_14 x_17 c_18 j2 w3 k53 hj53 hk53 c_19 n_24 j3 w4 k63 hj63 hk63 c_26 n_29 r_32 c_33) H.size) (zV hts k_2046 v_X12_canBe ⟨Nat.le_of_ble_eq_true rfl, Nat.le_of_ble_eq_true rfl⟩) (pV (pxS hK hP hD [0, 1, 2, 3] (by decide) rfl) hK hP 0 rfl rfl) rfl rfl hl.1 rfl (lv_room (Nat.le_of_ble_eq_true rfl)) dX12_next_84 ⟨Nat.le_of_ble_eq_true rfl, Nat.le_of_ble_eq_true rfl⟩) hP hS hA (fun r_36 H locs wr_36 hP hS => ?_)
                            refine lv_if_eq (tgt := 123) hx hb dX12_next_87 (by decide) (fun c_37 => ?_) (fun c_37 => ?_)
                            · refine lv_iconst (v := 0) hx hb dX12_next_123 (by decide) ?_
                              refine lv_iadd hx hb dX12_next_124 ?_
                              refine lv_topi (fun x_38 ex_38 => ?_)
                              refine lv_istore (lv' := [(5, .int x_38), (7, .int (nI j3)), (6, .int (nI j2)), (4, .int (nI j1)), (3, .int w2), (2, .int w1), (0, .ref h), (1, .int (nI tn1))]) hx hb dX12_next_125 hl (by decide) rfl (fun ls hl => ?_)
                              refine lv_iinc (v := nI (j3 + 1)) (lv' := [(7, .int (nI (j3 + 1))), (5, .int x_38), (6, .int (nI j2)), (4, .int (nI j1)), (3, .int w2), (2, .int w1), (0, .ref h), (1, .int (nI tn1))]) hx hb dX12_next_127 hl (k := 1) rfl (nI_1 j3) (by decide) rfl (fun ls hl => ?_)
                              refine lv_goto (tgt := 63) hx hb dX12_next_130 (by decide) ?_
                              exact ih63 (j3 + 1) x_38 H locs ls (by omega) (by omega)  (hP.sub [0, 1, 2, 3] rfl)  hS (lv_sub hl [0, 2, 1, 3, 4, 5, 6, 7] rfl)
                            · refine lv_aload_n hx hb dX12_next_90 rfl (lv_at hl 6 rfl) ?_
                              refine va_get (D := D) (ci := 12) (v := .ref (q 75)) (C := RX12) (T := TX12) (N := 81) hx hb hts inT_X12 hown hK.1 hP 0 rfl rfl 75 (by decide) (hts _ k_1428) (fun _ h9 => h9) rfl dX12_next_91 ?_
                              refine lv_bipush (v := 6) hx hb dX12_next_94 (by decide) ?_
                              refine lv_iload hx hb dX12_next_96 (lv_at hl 1 rfl) ?_
                              refine lv_imul hx hb dX12_next_98 ?_
                              refine lv_topv (y := nI (6 * j2)) (pk_mul 6 j2) ?_
                              refine lv_iload hx hb dX12_next_99 (lv_at hl 3 rfl) ?_
                              refine lv_iadd hx hb dX12_next_101 ?_
                              refine lv_topv (y := nI ((6 * j2) + j1)) (nI_add (6 * j2) j1) ?_
                              refine ld_i hx hb hK hP 1 rfl (lf_X12_next_39 h q im m_says m_isStory m_signSeen (nI tn1) c_2 tn1 tn1a tn1b rfl r_3 c_4 j1 w1 w2 k26 hj26 hk26 c_5 n_14 x_17 c_18 j2 w3 k53 hj53 hk53 c_19 n_24 j3 w4 k63 hj63 hk63 c_26 n_29 r_32 c_33 r_36 c_37) dX12_next_102 (fun x_40 => ?_)
                              refine lv_aload_n hx hb dX12_next_103 rfl (lv_at hl 6 rfl) ?_
                              refine va_get (D := D) (ci := 12) (v := .ref (q 75)) (C := RX12) (T := TX12) (N := 81) hx hb hts inT_X12 hown hK.1 hP 0 rfl rfl 75 (by decide) (hts _ k_1428) (fun _ h9 => h9) rfl dX12_next_104 ?_
                              refine lv_bipush (v := 6) hx hb dX12_next_107 (by decide) ?_
                              refine lv_iload hx hb dX12_next_109 (lv_at hl 0 rfl) ?_
                              refine lv_imul hx hb dX12_next_111 ?_
                              refine lv_topv (y := nI (6 * j3)) (pk_mul 6 j3) ?_
                              refine lv_iload hx hb dX12_next_112 (lv_at hl 3 rfl) ?_
                              refine lv_iadd hx hb dX12_next_114 ?_
                              refine lv_topv (y := nI ((6 * j3) + j1)) (nI_add (6 * j3) j1) ?_
                              refine ld_i hx hb hK hP 1 rfl (lf_X12_next_41 h q im m_says m_isStory m_signSeen (nI tn1) c_2 tn1 tn1a tn1b rfl r_3 c_4 j1 w1 w2 k26 hj26 hk26 c_5 n_14 x_17 c_18 j2 w3 k53 hj53 hk53 c_19 n_24 j3 w4 k63 hj63 hk63 c_26 n_29 r_32 c_33 r_36 c_37 x_40) dX12_next_115 (fun x_42 => ?_)
                              refine lv_isub hx hb dX12_next_116 ?_
                              refine lv_topi (fun x_43 ex_43 => ?_)
                              refine eRi (va_runS (As := [.int x_43]) (rest := [.int w4]) ⟨hx, hb, hml, hown, hts⟩ (c_X12_plain l D cI cB cZ cJ tx x_43 H.size) (zS hts k_1895 v_X12_plain ⟨Nat.le_of_ble_eq_true rfl, Nat.le_of_ble_eq_true rfl⟩) (px0 hK) rfl rfl hl.1 rfl (lv_room (Nat.le_of_ble_eq_true rfl)) dX12_next_117 ⟨Nat.le_of_ble_eq_true rfl, Nat.le_of_ble_eq_true rfl⟩) hP hS hA (fun r_44 H locs wr_44 hP hS => ?_)
                              refine lv_goto (tgt := 124) hx hb dX12_next_120 (by decide) ?_
                              refine lv_iadd hx hb dX12_next_124 ?_
                              refine lv_topi (fun x_45 ex_45 => ?_)
                              refine lv_istore (lv' := [(5, .int x_45), (7, .int (nI j3)), (6, .int (nI j2)), (4, .int (nI j1)), (3, .int w2), (2, .int w1), (0, .ref h), (1, .int (nI tn1))]) hx hb dX12_next_125 hl (by decide) rfl (fun ls hl => ?_)
                              refine lv_iinc (v := nI (j3 + 1)) (lv' := [(7, .int (nI (j3 + 1))), (5, .int x_45), (6, .int (nI j2)), (4, .int (nI j1)), (3, .int w2), (2, .int w1), (0, .ref h), (1, .int (nI tn1))]) hx hb dX12_next_127 hl (k := 1) rfl (nI_1 j3) (by decide) rfl (fun ls hl => ?_)
                              refine lv_goto (tgt := 63) hx hb dX12_next_130 (by decide) ?_
                              exact ih63 (j3 + 1) x_45 H locs ls (by omega) (by omega)  (hP.sub [0, 1, 2, 3] rfl)  hS (lv_sub hl [0, 2, 1, 3, 4, 5, 6, 7] rfl)
                    exact lp63 (j2 + 1) 0 w3 H locs ls (by omega) (by omega)  (hP.sub [0, 1, 2, 3] rfl)  hS (lv_sub hl [0, 1, 2, 3, 4, 5, 6, 7] rfl)
              exact lp53 (6 + 1) 0 0 H locs ls (by omega) (by omega)  (hP.sub [0, 1, 2, 3] rfl)  hS (lv_sub hl [0, 1, 2, 3, 4, 5, 6] rfl)
            · refine lv_goto (tgt := 159) hx hb dX12_next_44 (by decide) ?_
              refine lv_iinc (v := nI (j1 + 1)) (lv' := [(4, .int (nI (j1 + 1))), (3, .int w2), (2, .int w1), (0, .ref h), (1, .int (nI tn1))]) hx hb dX12_next_159 hl (k := 0) rfl (nI_1 j1) (by decide) rfl (fun ls hl => ?_)
              refine lv_goto (tgt := 26) hx hb dX12_next_162 (by decide) ?_
              exact ih26 (j1 + 1) w1 w2 H locs ls (by omega) (by omega)  (hP.sub [0, 1, 2, 3] rfl)  hS (lv_sub hl [0, 1, 2, 3, 4] rfl)
      exact lp26 (6 + 1) 0 (-1) 0 H locs ls (by omega) (by omega)  (hP.sub [0, 1, 2, 3] rfl)  hS (lv_sub hl [0, 1, 2, 3, 4] rfl)
    · refine lv_iconst (v := (-1)) hx hb dX12_next_17 (by decide) ?_
      exact W.iret (v := (-1)) hx hb hr (fun tt9 ht hW => ⟨⟨((-1) : Int32), (), rfl, trivial, trivial⟩, hS.F ht⟩) hS.2.2 dX12_next_18 hlocks

theorem lf_X12_numberAt_3 (h : Nat) (q : Nat → Nat) (im : Nat → Int32) (m_tape : Nat → Int32) (k1 : Nat) (hk1 : k1 < 24) (j1 : Nat) (w1 : Int32) (k4 : Nat) (hj4 : j1 ≤ 4) (hk4 : 4 < j1 + (k4 + 1)) (c_1 : 4 ≤ nI j1) : 4 ≤ j1 := by
  exact (nI_leI (a := 4) (b := j1) (by omega) (by omega)).mp c_1
theorem lf_X12_numberAt_5 (h : Nat) (q : Nat → Nat) (im : Nat → Int32) (m_tape : Nat → Int32) (k1 : Nat) (hk1 : k1 < 24) (j1 : Nat) (w1 : Int32) (k4 : Nat) (hj4 : j1 ≤ 4) (hk4 : 4 < j1 + (k4 + 1)) (c_1 : ¬ 4 ≤ nI j1) : j1 < 4 := by
  exact Nat.lt_of_not_le (fun q => c_1 ((nI_leI (a := 4) (b := j1) (by omega) (by omega)).mpr q))
theorem lf_X12_numberAt_7 (h : Nat) (q : Nat → Nat) (im : Nat → Int32) (m_tape : Nat → Int32) (k1 : Nat) (hk1 : k1 < 24) (j1 : Nat) (w1 : Int32) (k4 : Nat) (hj4 : j1 ≤ 4) (hk4 : 4 < j1 + (k4 + 1)) (c_1 : ¬ 4 ≤ nI j1) (n_4 : j1 < 4) (x_6 : Int32) (ex_6 : x_6 = w1 <<< (8 &&& 31)) : vp_in (nI ((4 * k1) + j1)) 220 := by
  first | exact vp_in_nI (by omega) (by decide) | (unfold vp_in; decide)
set_option maxHeartbeats 4000000 in
set_option maxRecDepth 100000 in
theorem c_X12_numberAt (l : Launch) (D : va_G) (cI cB cZ cJ : ClassId) (tx : List (ClassId × FieldType)) (h : Nat) (q : Nat → Nat) (im : Nat → Int32) (m_tape : Nat → Int32) (k1 : Nat) (hk1 : k1 < 24) : RdI l D cI cB cZ cJ tx yX12_numberAt cX12_numberAt 4 (some .int) 0 [.ref h, .int (nI k1)] [(h, .inr (12, mG q im)), (q 0, .inl (cB, 220, .inl m_tape))] (fun r => True) := by
  refine rdi_of2 (by decide) (Nat.le_of_ble_eq_true rfl) ?_
  intro p e s m below meth c A ls H locs hC hK hP hD hA hS hl
  obtain ⟨hx, hb, hr, hml, hown, hts, hlocks, hin⟩ := hC
  have hown : s.vm.findClass RX12 = some m.cls := hown
  have hl : lv_has ls 4 [(0, .ref h), (1, .int (nI k1))] := hl
  refine lv_iconst (v := 0) hx hb dX12_numberAt_0 (by decide) ?_
  refine lv_istore_n (lv' := [(2, .int 0), (0, .ref h), (1, .int (nI k1))]) hx hb dX12_numberAt_1 rfl hl (by decide) rfl (fun ls hl => ?_)
  refine lv_iconst (v := 0) hx hb dX12_numberAt_2 (by decide) ?_
  refine lv_istore_n (lv' := [(3, .int 0), (2, .int 0), (0, .ref h), (1, .int (nI k1))]) hx hb dX12_numberAt_3 rfl hl (by decide) rfl (fun ls hl => ?_)
  have lp4 : ∀ (k4 : Nat) (j1 : Nat) (w1 : Int32) (H : Heap) (locs : List Loc) (ls : Array Slot), j1 ≤ 4 → 4 < j1 + k4 → va_P D vwCl [(h, .inr (12, mG q im)), (q 0, .inl (cB, 220, .inl m_tape))] H → va_S A s.heap H locs → lv_has ls 4 [(3, .int (nI j1)), (2, .int w1), (0, .ref h), (1, .int (nI k1))] → W p l e (rmX 0 0 0) s m ([.ref h, .int (nI k1)] : List Value).toArray below meth c H locs 0 0 (MQ below (va_Qi (fun r (_ : Unit) => (fun r => True) r) (fun _ _ => True) A) ([.ref h, .int (nI k1)] : List Value).toArray s 0 0 A) (F0 m 4 ls []) := by
    intro k4
    induction k4 with
    | zero =>
      intro j1 w1 H locs ls hj4 hk4  hP hS hl
      exact absurd hk4 (by omega)
    | succ k4 ih4 =>
      intro j1 w1 H locs ls hj4 hk4  hP hS hl
      refine lv_iload_n hx hb dX12_numberAt_4 rfl (lv_at hl 0 rfl) ?_
      refine lv_iconst (v := 4) hx hb dX12_numberAt_5 (by decide) ?_
      refine lv_icmp_ge (tgt := 35) hx hb dX12_numberAt_6 (by decide) (fun c_1 => ?_) (fun c_1 => ?_)
      · have n_2 : 4 ≤ j1 := (lf_X12_numberAt_3 h q im m_tape k1 hk1 j1 w1 k4 hj4 hk4 c_1)
        refine lv_iload_n hx hb dX12_numberAt_35 rfl (lv_at hl 1 rfl) ?_
        exact W.iret (v := w1) hx hb hr (fun tt9 ht hW => ⟨⟨(w1 : Int32), (), rfl, trivial, trivial⟩, hS.F ht⟩) hS.2.2 dX12_numberAt_36 hlocks
      · have n_4 : j1 < 4 := (lf_X12_numberAt_5 h q im m_tape k1 hk1 j1 w1 k4 hj4 hk4 c_1)
        refine lv_iload_n hx hb dX12_numberAt_9 rfl (lv_at hl 1 rfl) ?_
        refine lv_bipush (v := 8) hx hb dX12_numberAt_10 (by decide) ?_
        refine lv_ishl hx hb dX12_numberAt_12 ?_
        refine lv_topi (fun x_6 ex_6 => ?_)
        refine lv_aload_n hx hb dX12_numberAt_13 rfl (lv_at hl 2 rfl) ?_
        refine va_get (D := D) (ci := 12) (v := .ref (q 0)) (C := RX12) (T := TX12) (N := 81) hx hb hts inT_X12 hown hK.1 hP 0 rfl rfl 0 (by decide) (hts _ k_1353) (fun _ h9 => h9) rfl dX12_numberAt_14 ?_
        refine lv_iconst (v := 4) hx hb dX12_numberAt_17 (by decide) ?_
        refine lv_iload_n hx hb dX12_numberAt_18 rfl (lv_at hl 3 rfl) ?_
        refine lv_imul hx hb dX12_numberAt_19 ?_
        refine lv_topv (y := nI (4 * k1)) (pk_mul 4 k1) ?_
        refine lv_iload_n hx hb dX12_numberAt_20 rfl (lv_at hl 0 rfl) ?_
        refine lv_iadd hx hb dX12_numberAt_21 ?_
        refine lv_topv (y := nI ((4 * k1) + j1)) (nI_add (4 * k1) j1) ?_
        refine ld_b hx hb hK hP 1 rfl (lf_X12_numberAt_7 h q im m_tape k1 hk1 j1 w1 k4 hj4 hk4 c_1 n_4 x_6 ex_6) dX12_numberAt_22 (fun x_8 => ?_)
        refine lv_sipush (v := 255) hx hb dX12_numberAt_23 (by decide) ?_
        refine lv_iand hx hb dX12_numberAt_26 ?_
        refine lv_topi (fun x_9 ex_9 => ?_)
        refine lv_ior hx hb dX12_numberAt_27 ?_
        refine lv_topi (fun x_10 ex_10 => ?_)
        refine lv_istore_n (lv' := [(2, .int x_10), (3, .int (nI j1)), (0, .ref h), (1, .int (nI k1))]) hx hb dX12_numberAt_28 rfl hl (by decide) rfl (fun ls hl => ?_)
        refine lv_iinc (v := nI (j1 + 1)) (lv' := [(3, .int (nI (j1 + 1))), (2, .int x_10), (0, .ref h), (1, .int (nI k1))]) hx hb dX12_numberAt_29 hl (k := 1) rfl (nI_1 j1) (by decide) rfl (fun ls hl => ?_)
        refine lv_goto (tgt := 4) hx hb dX12_numberAt_32 (by decide) ?_
        exact ih4 (j1 + 1) x_10 H locs ls (by omega) (by omega)  (hP.sub [0, 1] rfl)  hS (lv_sub hl [0, 1, 2, 3] rfl)
  exact lp4 (4 + 1) 0 0 H locs ls (by omega) (by omega)  (hP.sub [0, 1] rfl)  hS (lv_sub hl [0, 1, 2, 3] rfl)

theorem lf_X12_clears_14 (h : Nat) (q : Nat → Nat) (im : Nat → Int32) (i_1 : Nat → Int32) (i_2 : Nat → Int32) (i_3 : Nat → Int32) (i_4 : Nat → Int32) (i_5 : Nat → Int32) (i_6 : Nat → Int32) (i_7 : Nat → Int32) (i_8 : Nat → Int32) (i_9 : Nat → Int32) (i_10 : Nat → Int32) (i_11 : Nat → Int32) (i_12 : Nat → Int32) (i_13 : Nat → Int32) (hsb : SB [29, 30, 31, 32, 33, 34, 35, 36, 37, 38, 39, 40, 41] im i_13) (hi_13_29 : i_13 29 = 0) (hi_13_30 : i_13 30 = 0) (hi_13_31 : i_13 31 = 0) (hi_13_32 : i_13 32 = 0) (hi_13_33 : i_13 33 = 0) (hi_13_34 : i_13 34 = 0) (hi_13_35 : i_13 35 = 0) (hi_13_36 : i_13 36 = 0) (hi_13_37 : i_13 37 = 0) (hi_13_38 : i_13 38 = 0) (hi_13_39 : i_13 39 = 0) (hi_13_40 : i_13 40 = 0) (hi_13_41 : i_13 41 = 0) : (SB [29, 30, 31, 32, 33, 34, 35, 36, 37, 38, 39, 40, 41] im (i_13 : Nat → Int32)) := by
  repeat' apply And.intro
  all_goals first | assumption | omega | rfl | trivial
set_option maxHeartbeats 4000000 in
set_option maxRecDepth 100000 in
theorem c_X12_clears (l : Launch) (D : va_G) (cI cB cZ cJ : ClassId) (tx : List (ClassId × FieldType)) (h : Nat) (q : Nat → Nat) (im : Nat → Int32) : WrV l D cI cB cZ cJ tx yX12_clears cX12_clears 1 none 0 0 0 [.ref h] [(h, .inr (12, mG q im))] (fun (v : (Nat → Int32)) => (SB [29, 30, 31, 32, 33, 34, 35, 36, 37, 38, 39, 40, 41] im v)) (fun v => [(h, .inr (12, mG q v))]) := by
  refine wrv_of2 (by decide) (Nat.le_of_ble_eq_true rfl) ?_
  intro p e s m below meth c A ls H locs hC hK hP hD hA hS hl
  obtain ⟨hx, hb, hr, hml, hown, hts, hlocks, hin⟩ := hC
  have hown : s.vm.findClass RX12 = some m.cls := hown
  have hl : lv_has ls 1 [(0, .ref h)] := hl
  have hsb : SB [29, 30, 31, 32, 33, 34, 35, 36, 37, 38, 39, 40, 41] im im := SB.rf
  refine lv_aload_n hx hb dX12_clears_0 rfl (lv_at hl 0 rfl) ?_
  refine lv_iconst (v := 0) hx hb dX12_clears_1 (by decide) ?_
  refine va_put (D := D) (ci := 12) (v := .int 0) (ty := .int) (C := RX12) (T := TX12) (N := 81) hx hb hts inT_X12 tyX12 tyX12_ok nmX12 hown hK.1 hP hD hS 0 rfl rfl 29 (by decide) (hts _ k_1382) (fun _ h9 => h9) rfl (by decide +kernel) rfl rfl (Nat.le_of_ble_eq_true rfl) dX12_clears_2 (fun H locs hP hD hS => ?_)
  obtain ⟨i_1, ei_1⟩ : ∃ z : Nat → Int32, z = upd im 29 0 := ⟨_, rfl⟩
  have hi_1_29 : i_1 29 = 0 := by rw [ei_1]; rfl
  have hsb := SB.put hsb ei_1 (by decide)
  have hP : va_P D vwCl [(h, .inr (12, mG q i_1))] H := by rw [ei_1, ← mG_29]; exact hP
  have hD : va_D A [(h, .inr (12, mG q i_1))] := by rw [ei_1, ← mG_29]; exact hD
  refine lv_aload_n hx hb dX12_clears_5 rfl (lv_at hl 0 rfl) ?_
  refine lv_iconst (v := 0) hx hb dX12_clears_6 (by decide) ?_
  refine va_put (D := D) (ci := 12) (v := .int 0) (ty := .int) (C := RX12) (T := TX12) (N := 81) hx hb hts inT_X12 tyX12 tyX12_ok nmX12 hown hK.1 hP hD hS 0 rfl rfl 30 (by decide) (hts _ k_1383) (fun _ h9 => h9) rfl (by decide +kernel) rfl rfl (Nat.le_of_ble_eq_true rfl) dX12_clears_7 (fun H locs hP hD hS => ?_)
  obtain ⟨i_2, ei_2⟩ : ∃ z : Nat → Int32, z = upd i_1 30 0 := ⟨_, rfl⟩
  have hi_2_29 : i_2 29 = 0 := by rw [ei_2]; exact hi_1_29
  have hi_2_30 : i_2 30 = 0 := by rw [ei_2]; rfl
  have hsb := SB.put hsb ei_2 (by decide)
  have hP : va_P D vwCl [(h, .inr (12, mG q i_2))] H := by rw [ei_2, ← mG_30]; exact hP
  have hD : va_D A [(h, .inr (12, mG q i_2))] := by rw [ei_2, ← mG_30]; exact hD
  refine lv_aload_n hx hb dX12_clears_10 rfl (lv_at hl 0 rfl) ?_
  refine lv_iconst (v := 0) hx hb dX12_clears_11 (by decide) ?_
  refine va_put (D := D) (ci := 12) (v := .int 0) (ty := .int) (C := RX12) (T := TX12) (N := 81) hx hb hts inT_X12 tyX12 tyX12_ok nmX12 hown hK.1 hP hD hS 0 rfl rfl 31 (by decide) (hts _ k_1384) (fun _ h9 => h9) rfl (by decide +kernel) rfl rfl (Nat.le_of_ble_eq_true rfl) dX12_clears_12 (fun H locs hP hD hS => ?_)
  obtain ⟨i_3, ei_3⟩ : ∃ z : Nat → Int32, z = upd i_2 31 0 := ⟨_, rfl⟩
  have hi_3_29 : i_3 29 = 0 := by rw [ei_3]; exact hi_2_29
  have hi_3_30 : i_3 30 = 0 := by rw [ei_3]; exact hi_2_30
  have hi_3_31 : i_3 31 = 0 := by rw [ei_3]; rfl
  have hsb := SB.put hsb ei_3 (by decide)
  have hP : va_P D vwCl [(h, .inr (12, mG q i_3))] H := by rw [ei_3, ← mG_31]; exact hP
  have hD : va_D A [(h, .inr (12, mG q i_3))] := by rw [ei_3, ← mG_31]; exact hD
  refine lv_aload_n hx hb dX12_clears_15 rfl (lv_at hl 0 rfl) ?_
  refine lv_iconst (v := 0) hx hb dX12_clears_16 (by decide) ?_
  refine va_put (D := D) (ci := 12) (v := .int 0) (ty := .int) (C := RX12) (T := TX12) (N := 81) hx hb hts inT_X12 tyX12 tyX12_ok nmX12 hown hK.1 hP hD hS 0 rfl rfl 32 (by decide) (hts _ k_1385) (fun _ h9 => h9) rfl (by decide +kernel) rfl rfl (Nat.le_of_ble_eq_true rfl) dX12_clears_17 (fun H locs hP hD hS => ?_)
  obtain ⟨i_4, ei_4⟩ : ∃ z : Nat → Int32, z = upd i_3 32 0 := ⟨_, rfl⟩
  have hi_4_29 : i_4 29 = 0 := by rw [ei_4]; exact hi_3_29
  have hi_4_30 : i_4 30 = 0 := by rw [ei_4]; exact hi_3_30
  have hi_4_31 : i_4 31 = 0 := by rw [ei_4]; exact hi_3_31
  have hi_4_32 : i_4 32 = 0 := by rw [ei_4]; rfl
  have hsb := SB.put hsb ei_4 (by decide)
  have hP : va_P D vwCl [(h, .inr (12, mG q i_4))] H := by rw [ei_4, ← mG_32]; exact hP
  have hD : va_D A [(h, .inr (12, mG q i_4))] := by rw [ei_4, ← mG_32]; exact hD
  refine lv_aload_n hx hb dX12_clears_20 rfl (lv_at hl 0 rfl) ?_
  refine lv_iconst (v := 0) hx hb dX12_clears_21 (by decide) ?_
  refine va_put (D := D) (ci := 12) (v := .int 0) (ty := .int) (C := RX12) (T := TX12) (N := 81) hx hb hts inT_X12 tyX12 tyX12_ok nmX12 hown hK.1 hP hD hS 0 rfl rfl 33 (by decide) (hts _ k_1386) (fun _ h9 => h9) rfl (by decide +kernel) rfl rfl (Nat.le_of_ble_eq_true rfl) dX12_clears_22 (fun H locs hP hD hS => ?_)
  obtain ⟨i_5, ei_5⟩ : ∃ z : Nat → Int32, z = upd i_4 33 0 := ⟨_, rfl⟩
  have hi_5_29 : i_5 29 = 0 := by rw [ei_5]; exact hi_4_29
  have hi_5_30 : i_5 30 = 0 := by rw [ei_5]; exact hi_4_30
  have hi_5_31 : i_5 31 = 0 := by rw [ei_5]; exact hi_4_31
  have hi_5_32 : i_5 32 = 0 := by rw [ei_5]; exact hi_4_32
  have hi_5_33 : i_5 33 = 0 := by rw [ei_5]; rfl
  have hsb := SB.put hsb ei_5 (by decide)
  have hP : va_P D vwCl [(h, .inr (12, mG q i_5))] H := by rw [ei_5, ← mG_33]; exact hP
  have hD : va_D A [(h, .inr (12, mG q i_5))] := by rw [ei_5, ← mG_33]; exact hD
  refine lv_aload_n hx hb dX12_clears_25 rfl (lv_at hl 0 rfl) ?_
  refine lv_iconst (v := 0) hx hb dX12_clears_26 (by decide) ?_
  refine va_put (D := D) (ci := 12) (v := .int 0) (ty := .int) (C := RX12) (T := TX12) (N := 81) hx hb hts inT_X12 tyX12 tyX12_ok nmX12 hown hK.1 hP hD hS 0 rfl rfl 34 (by decide) (hts _ k_1387) (fun _ h9 => h9) rfl (by decide +kernel) rfl rfl (Nat.le_of_ble_eq_true rfl) dX12_clears_27 (fun H locs hP hD hS => ?_)
  obtain ⟨i_6, ei_6⟩ : ∃ z : Nat → Int32, z = upd i_5 34 0 := ⟨_, rfl⟩
  have hi_6_29 : i_6 29 = 0 := by rw [ei_6]; exact hi_5_29
  have hi_6_30 : i_6 30 = 0 := by rw [ei_6]; exact hi_5_30
  have hi_6_31 : i_6 31 = 0 := by rw [ei_6]; exact hi_5_31
  have hi_6_32 : i_6 32 = 0 := by rw [ei_6]; exact hi_5_32
  have hi_6_33 : i_6 33 = 0 := by rw [ei_6]; exact hi_5_33
  have hi_6_34 : i_6 34 = 0 := by rw [ei_6]; rfl
  have hsb := SB.put hsb ei_6 (by decide)
  have hP : va_P D vwCl [(h, .inr (12, mG q i_6))] H := by rw [ei_6, ← mG_34]; exact hP
  have hD : va_D A [(h, .inr (12, mG q i_6))] := by rw [ei_6, ← mG_34]; exact hD
  refine lv_aload_n hx hb dX12_clears_30 rfl (lv_at hl 0 rfl) ?_
  refine lv_iconst (v := 0) hx hb dX12_clears_31 (by decide) ?_
  refine va_put (D := D) (ci := 12) (v := .int 0) (ty := .int) (C := RX12) (T := TX12) (N := 81) hx hb hts inT_X12 tyX12 tyX12_ok nmX12 hown hK.1 hP hD hS 0 rfl rfl 35 (by decide) (hts _ k_1388) (fun _ h9 => h9) rfl (by decide +kernel) rfl rfl (Nat.le_of_ble_eq_true rfl) dX12_clears_32 (fun H locs hP hD hS => ?_)
  obtain ⟨i_7, ei_7⟩ : ∃ z : Nat → Int32, z = upd i_6 35 0 := ⟨_, rfl⟩
  have hi_7_29 : i_7 29 = 0 := by rw [ei_7]; exact hi_6_29
  have hi_7_30 : i_7 30 = 0 := by rw [ei_7]; exact hi_6_30
  have hi_7_31 : i_7 31 = 0 := by rw [ei_7]; exact hi_6_31
  have hi_7_32 : i_7 32 = 0 := by rw [ei_7]; exact hi_6_32
  have hi_7_33 : i_7 33 = 0 := by rw [ei_7]; exact hi_6_33
  have hi_7_34 : i_7 34 = 0 := by rw [ei_7]; exact hi_6_34
  have hi_7_35 : i_7 35 = 0 := by rw [ei_7]; rfl
  have hsb := SB.put hsb ei_7 (by decide)
  have hP : va_P D vwCl [(h, .inr (12, mG q i_7))] H := by rw [ei_7, ← mG_35]; exact hP
  have hD : va_D A [(h, .inr (12, mG q i_7))] := by rw [ei_7, ← mG_35]; exact hD
  refine lv_aload_n hx hb dX12_clears_35 rfl (lv_at hl 0 rfl) ?_
  refine lv_iconst (v := 0) hx hb dX12_clears_36 (by decide) ?_
  refine va_put (D := D) (ci := 12) (v := .int 0) (ty := .int) (C := RX12) (T := TX12) (N := 81) hx hb hts inT_X12 tyX12 tyX12_ok nmX12 hown hK.1 hP hD hS 0 rfl rfl 36 (by decide) (hts _ k_1389) (fun _ h9 => h9) rfl (by decide +kernel) rfl rfl (Nat.le_of_ble_eq_true rfl) dX12_clears_37 (fun H locs hP hD hS => ?_)
  obtain ⟨i_8, ei_8⟩ : ∃ z : Nat → Int32, z = upd i_7 36 0 := ⟨_, rfl⟩
  have hi_8_29 : i_8 29 = 0 := by rw [ei_8]; exact hi_7_29
  have hi_8_30 : i_8 30 = 0 := by rw [ei_8]; exact hi_7_30
  have hi_8_31 : i_8 31 = 0 := by rw [ei_8]; exact hi_7_31
  have hi_8_32 : i_8 32 = 0 := by rw [ei_8]; exact hi_7_32
  have hi_8_33 : i_8 33 = 0 := by rw [ei_8]; exact hi_7_33
  have hi_8_34 : i_8 34 = 0 := by rw [ei_8]; exact hi_7_34
  have hi_8_35 : i_8 35 = 0 := by rw [ei_8]; exact hi_7_35
  have hi_8_36 : i_8 36 = 0 := by rw [ei_8]; rfl
  have hsb := SB.put hsb ei_8 (by decide)
  have hP : va_P D vwCl [(h, .inr (12, mG q i_8))] H := by rw [ei_8, ← mG_36]; exact hP
  have hD : va_D A [(h, .inr (12, mG q i_8))] := by rw [ei_8, ← mG_36]; exact hD
  refine lv_aload_n hx hb dX12_clears_40 rfl (lv_at hl 0 rfl) ?_
  refine lv_iconst (v := 0) hx hb dX12_clears_41 (by decide) ?_
  refine va_put (D := D) (ci := 12) (v := .int 0) (ty := .int) (C := RX12) (T := TX12) (N := 81) hx hb hts inT_X12 tyX12 tyX12_ok nmX12 hown hK.1 hP hD hS 0 rfl rfl 37 (by decide) (hts _ k_1390) (fun _ h9 => h9) rfl (by decide +kernel) rfl rfl (Nat.le_of_ble_eq_true rfl) dX12_clears_42 (fun H locs hP hD hS => ?_)
  obtain ⟨i_9, ei_9⟩ : ∃ z : Nat → Int32, z = upd i_8 37 0 := ⟨_, rfl⟩
  have hi_9_29 : i_9 29 = 0 := by rw [ei_9]; exact hi_8_29
  have hi_9_30 : i_9 30 = 0 := by rw [ei_9]; exact hi_8_30
  have hi_9_31 : i_9 31 = 0 := by rw [ei_9]; exact hi_8_31
  have hi_9_32 : i_9 32 = 0 := by rw [ei_9]; exact hi_8_32
  have hi_9_33 : i_9 33 = 0 := by rw [ei_9]; exact hi_8_33
  have hi_9_34 : i_9 34 = 0 := by rw [ei_9]; exact hi_8_34
  have hi_9_35 : i_9 35 = 0 := by rw [ei_9]; exact hi_8_35
  have hi_9_36 : i_9 36 = 0 := by rw [ei_9]; exact hi_8_36
  have hi_9_37 : i_9 37 = 0 := by rw [ei_9]; rfl
  have hsb := SB.put hsb ei_9 (by decide)
  have hP : va_P D vwCl [(h, .inr (12, mG q i_9))] H := by rw [ei_9, ← mG_37]; exact hP
  have hD : va_D A [(h, .inr (12, mG q i_9))] := by rw [ei_9, ← mG_37]; exact hD
  refine lv_aload_n hx hb dX12_clears_45 rfl (lv_at hl 0 rfl) ?_
  refine lv_iconst (v := 0) hx hb dX12_clears_46 (by decide) ?_
  refine va_put (D := D) (ci := 12) (v := .int 0) (ty := .int) (C := RX12) (T := TX12) (N := 81) hx hb hts inT_X12 tyX12 tyX12_ok nmX12 hown hK.1 hP hD hS 0 rfl rfl 38 (by decide) (hts _ k_1391) (fun _ h9 => h9) rfl (by decide +kernel) rfl rfl (Nat.le_of_ble_eq_true rfl) dX12_clears_47 (fun H locs hP hD hS => ?_)
  obtain ⟨i_10, ei_10⟩ : ∃ z : Nat → Int32, z = upd i_9 38 0 := ⟨_, rfl⟩
  have hi_10_29 : i_10 29 = 0 := by rw [ei_10]; exact hi_9_29
  have hi_10_30 : i_10 30 = 0 := by rw [ei_10]; exact hi_9_30
  have hi_10_31 : i_10 31 = 0 := by rw [ei_10]; exact hi_9_31
  have hi_10_32 : i_10 32 = 0 := by rw [ei_10]; exact hi_9_32
  have hi_10_33 : i_10 33 = 0 := by rw [ei_10]; exact hi_9_33
  have hi_10_34 : i_10 34 = 0 := by rw [ei_10]; exact hi_9_34
  have hi_10_35 : i_10 35 = 0 := by rw [ei_10]; exact hi_9_35
  have hi_10_36 : i_10 36 = 0 := by rw [ei_10]; exact hi_9_36
  have hi_10_37 : i_10 37 = 0 := by rw [ei_10]; exact hi_9_37
  have hi_10_38 : i_10 38 = 0 := by rw [ei_10]; rfl
  have hsb := SB.put hsb ei_10 (by decide)
  have hP : va_P D vwCl [(h, .inr (12, mG q i_10))] H := by rw [ei_10, ← mG_38]; exact hP
  have hD : va_D A [(h, .inr (12, mG q i_10))] := by rw [ei_10, ← mG_38]; exact hD
  refine lv_aload_n hx hb dX12_clears_50 rfl (lv_at hl 0 rfl) ?_
  refine lv_iconst (v := 0) hx hb dX12_clears_51 (by decide) ?_
  refine va_put (D := D) (ci := 12) (v := .int 0) (ty := .int) (C := RX12) (T := TX12) (N := 81) hx hb hts inT_X12 tyX12 tyX12_ok nmX12 hown hK.1 hP hD hS 0 rfl rfl 39 (by decide) (hts _ k_1392) (fun _ h9 => h9) rfl (by decide +kernel) rfl rfl (Nat.le_of_ble_eq_true rfl) dX12_clears_52 (fun H locs hP hD hS => ?_)
  obtain ⟨i_11, ei_11⟩ : ∃ z : Nat → Int32, z = upd i_10 39 0 := ⟨_, rfl⟩
  have hi_11_29 : i_11 29 = 0 := by rw [ei_11]; exact hi_10_29
  have hi_11_30 : i_11 30 = 0 := by rw [ei_11]; exact hi_10_30
  have hi_11_31 : i_11 31 = 0 := by rw [ei_11]; exact hi_10_31
  have hi_11_32 : i_11 32 = 0 := by rw [ei_11]; exact hi_10_32
  have hi_11_33 : i_11 33 = 0 := by rw [ei_11]; exact hi_10_33
  have hi_11_34 : i_11 34 = 0 := by rw [ei_11]; exact hi_10_34
  have hi_11_35 : i_11 35 = 0 := by rw [ei_11]; exact hi_10_35
  have hi_11_36 : i_11 36 = 0 := by rw [ei_11]; exact hi_10_36
  have hi_11_37 : i_11 37 = 0 := by rw [ei_11]; exact hi_10_37
  have hi_11_38 : i_11 38 = 0 := by rw [ei_11]; exact hi_10_38
  have hi_11_39 : i_11 39 = 0 := by rw [ei_11]; rfl
  have hsb := SB.put hsb ei_11 (by decide)
  have hP : va_P D vwCl [(h, .inr (12, mG q i_11))] H := by rw [ei_11, ← mG_39]; exact hP
  have hD : va_D A [(h, .inr (12, mG q i_11))] := by rw [ei_11, ← mG_39]; exact hD
  refine lv_aload_n hx hb dX12_clears_55 rfl (lv_at hl 0 rfl) ?_
  refine lv_iconst (v := 0) hx hb dX12_clears_56 (by decide) ?_
  refine va_put (D := D) (ci := 12) (v := .int 0) (ty := .int) (C := RX12) (T := TX12) (N := 81) hx hb hts inT_X12 tyX12 tyX12_ok nmX12 hown hK.1 hP hD hS 0 rfl rfl 40 (by decide) (hts _ k_1393) (fun _ h9 => h9) rfl (by decide +kernel) rfl rfl (Nat.le_of_ble_eq_true rfl) dX12_clears_57 (fun H locs hP hD hS => ?_)
  obtain ⟨i_12, ei_12⟩ : ∃ z : Nat → Int32, z = upd i_11 40 0 := ⟨_, rfl⟩
  have hi_12_29 : i_12 29 = 0 := by rw [ei_12]; exact hi_11_29
  have hi_12_30 : i_12 30 = 0 := by rw [ei_12]; exact hi_11_30
  have hi_12_31 : i_12 31 = 0 := by rw [ei_12]; exact hi_11_31
  have hi_12_32 : i_12 32 = 0 := by rw [ei_12]; exact hi_11_32
  have hi_12_33 : i_12 33 = 0 := by rw [ei_12]; exact hi_11_33
  have hi_12_34 : i_12 34 = 0 := by rw [ei_12]; exact hi_11_34
  have hi_12_35 : i_12 35 = 0 := by rw [ei_12]; exact hi_11_35
  have hi_12_36 : i_12 36 = 0 := by rw [ei_12]; exact hi_11_36
  have hi_12_37 : i_12 37 = 0 := by rw [ei_12]; exact hi_11_37
  have hi_12_38 : i_12 38 = 0 := by rw [ei_12]; exact hi_11_38
  have hi_12_39 : i_12 39 = 0 := by rw [ei_12]; exact hi_11_39
  have hi_12_40 : i_12 40 = 0 := by rw [ei_12]; rfl
  have hsb := SB.put hsb ei_12 (by decide)
  have hP : va_P D vwCl [(h, .inr (12, mG q i_12))] H := by rw [ei_12, ← mG_40]; exact hP
  have hD : va_D A [(h, .inr (12, mG q i_12))] := by rw [ei_12, ← mG_40]; exact hD
  refine lv_aload_n hx hb dX12_clears_60 rfl (lv_at hl 0 rfl) ?_
  refine lv_iconst (v := 0) hx hb dX12_clears_61 (by decide) ?_
  refine va_put (D := D) (ci := 12) (v := .int 0) (ty := .int) (C := RX12) (T := TX12) (N := 81) hx hb hts inT_X12 tyX12 tyX12_ok nmX12 hown hK.1 hP hD hS 0 rfl rfl 41 (by decide) (hts _ k_1394) (fun _ h9 => h9) rfl (by decide +kernel) rfl rfl (Nat.le_of_ble_eq_true rfl) dX12_clears_62 (fun H locs hP hD hS => ?_)
  obtain ⟨i_13, ei_13⟩ : ∃ z : Nat → Int32, z = upd i_12 41 0 := ⟨_, rfl⟩
  have hi_13_29 : i_13 29 = 0 := by rw [ei_13]; exact hi_12_29
  have hi_13_30 : i_13 30 = 0 := by rw [ei_13]; exact hi_12_30
  have hi_13_31 : i_13 31 = 0 := by rw [ei_13]; exact hi_12_31
  have hi_13_32 : i_13 32 = 0 := by rw [ei_13]; exact hi_12_32
  have hi_13_33 : i_13 33 = 0 := by rw [ei_13]; exact hi_12_33
  have hi_13_34 : i_13 34 = 0 := by rw [ei_13]; exact hi_12_34
  have hi_13_35 : i_13 35 = 0 := by rw [ei_13]; exact hi_12_35
  have hi_13_36 : i_13 36 = 0 := by rw [ei_13]; exact hi_12_36
  have hi_13_37 : i_13 37 = 0 := by rw [ei_13]; exact hi_12_37
  have hi_13_38 : i_13 38 = 0 := by rw [ei_13]; exact hi_12_38
  have hi_13_39 : i_13 39 = 0 := by rw [ei_13]; exact hi_12_39
  have hi_13_40 : i_13 40 = 0 := by rw [ei_13]; exact hi_12_40
  have hi_13_41 : i_13 41 = 0 := by rw [ei_13]; rfl
  have hsb := SB.put hsb ei_13 (by decide)
  have hP : va_P D vwCl [(h, .inr (12, mG q i_13))] H := by rw [ei_13, ← mG_41]; exact hP
  have hD : va_D A [(h, .inr (12, mG q i_13))] := by rw [ei_13, ← mG_41]; exact hD
  exact W.vret hx hb hr (fun tt9 ht hW => ⟨⟨((i_13 : Nat → Int32)), rfl, (lf_X12_clears_14 h q im i_1 i_2 i_3 i_4 i_5 i_6 i_7 i_8 i_9 i_10 i_11 i_12 i_13 hsb hi_13_29 hi_13_30 hi_13_31 hi_13_32 hi_13_33 hi_13_34 hi_13_35 hi_13_36 hi_13_37 hi_13_38 hi_13_39 hi_13_40 hi_13_41), ⟨by rw [ht]; exact hP, hD⟩⟩, hS.F ht⟩) hS.2.2 dX12_clears_65 hlocks

theorem lf_X12_stands_12 (h : Nat) (q : Nat → Nat) (im : Nat → Int32) (ms : Nat) (mk : Nat) (f1 : Nat) (s1 : Nat) (d1 : Nat) (hf_ms : im 2 = nI ms) (hf_mk : im 3 = nI mk) (im_2 : Nat → Int32) (hz_2_0 : SB [29, 30, 31, 32, 33, 34, 35, 36, 37, 38, 39, 40, 41] im im_2) (i_3 : Nat → Int32) (i_4 : Nat → Int32) (i_5 : Nat → Int32) (i_6 : Nat → Int32) (x_7 : Int32) (ex_7 : x_7 = nI ms - 1 - nI f1) (c_8 : x_7 ≤ nI f1) (x_9 : Int32) (ex_9 : x_9 = nI ms - 1 - nI f1) (i_10 : Nat → Int32) (i_11 : Nat → Int32) (hsb : SB [29, 30, 31, 32, 33, 34, 35, 36, 37, 38, 39, 40, 41] im i_11) (hi_11_2 : i_11 2 = nI ms) (hi_11_3 : i_11 3 = nI mk) (hi_11_29 : i_11 29 = nI f1) (hi_11_30 : i_11 30 = nI s1) (hi_11_31 : i_11 31 = nI d1) (hi_11_32 : i_11 32 = nI ms) (hi_11_33 : i_11 33 = x_9) (hi_11_34 : i_11 34 = nI mk) : (SB [29, 30, 31, 32, 33, 34, 35, 36, 37, 38, 39, 40, 41] im (i_11 : Nat → Int32)) := by
  repeat' apply And.intro
  all_goals first | assumption | omega | rfl | trivial
theorem lf_X12_stands_15 (h : Nat) (q : Nat → Nat) (im : Nat → Int32) (ms : Nat) (mk : Nat) (f1 : Nat) (s1 : Nat) (d1 : Nat) (hf_ms : im 2 = nI ms) (hf_mk : im 3 = nI mk) (im_2 : Nat → Int32) (hz_2_0 : SB [29, 30, 31, 32, 33, 34, 35, 36, 37, 38, 39, 40, 41] im im_2) (i_3 : Nat → Int32) (i_4 : Nat → Int32) (i_5 : Nat → Int32) (i_6 : Nat → Int32) (x_7 : Int32) (ex_7 : x_7 = nI ms - 1 - nI f1) (c_8 : ¬ x_7 ≤ nI f1) (i_13 : Nat → Int32) (i_14 : Nat → Int32) (hsb : SB [29, 30, 31, 32, 33, 34, 35, 36, 37, 38, 39, 40, 41] im i_14) (hi_14_2 : i_14 2 = nI ms) (hi_14_3 : i_14 3 = nI mk) (hi_14_29 : i_14 29 = nI f1) (hi_14_30 : i_14 30 = nI s1) (hi_14_31 : i_14 31 = nI d1) (hi_14_32 : i_14 32 = nI ms) (hi_14_33 : i_14 33 = nI f1) (hi_14_34 : i_14 34 = nI mk) : (SB [29, 30, 31, 32, 33, 34, 35, 36, 37, 38, 39, 40, 41] im (i_14 : Nat → Int32)) := by
  repeat' apply And.intro
  all_goals first | assumption | omega | rfl | trivial
set_option maxHeartbeats 4000000 in
set_option maxRecDepth 100000 in
theorem c_X12_stands (l : Launch) (D : va_G) (cI cB cZ cJ : ClassId) (tx : List (ClassId × FieldType)) (h : Nat) (q : Nat → Nat) (im : Nat → Int32) (ms : Nat) (mk : Nat) (f1 : Nat) (s1 : Nat) (d1 : Nat) (hf_ms : im 2 = nI ms) (hf_mk : im 3 = nI mk) : WrV l D cI cB cZ cJ tx yX12_stands cX12_stands 4 none 1 0 0 [.ref h, .int (nI f1), .int (nI s1), .int (nI d1)] [(h, .inr (12, mG q im))] (fun (v : (Nat → Int32)) => (SB [29, 30, 31, 32, 33, 34, 35, 36, 37, 38, 39, 40, 41] im v)) (fun v => [(h, .inr (12, mG q v))]) := by
  refine wrv_of2 (by decide) (Nat.le_of_ble_eq_true rfl) ?_
  intro p e s m below meth c A ls H locs hC hK hP hD hA hS hl
  obtain ⟨hx, hb, hr, hml, hown, hts, hlocks, hin⟩ := hC
  have hown : s.vm.findClass RX12 = some m.cls := hown
  have hl : lv_has ls 4 [(0, .ref h), (1, .int (nI f1)), (2, .int (nI s1)), (3, .int (nI d1))] := hl
  have hsb : SB [29, 30, 31, 32, 33, 34, 35, 36, 37, 38, 39, 40, 41] im im := SB.rf
  refine lv_aload_n hx hb dX12_stands_0 rfl (lv_at hl 0 rfl) ?_
  refine eWv (wr := []) (va_runV (As := []) (rest := []) ⟨hx, hb, hml, hown, hts⟩ (c_X12_clears l D cI cB cZ cJ tx h q im H.size) (zV hts k_1742 v_X12_clears ⟨Nat.le_of_ble_eq_true rfl, Nat.le_of_ble_eq_true rfl⟩) (pV (pxS hK hP hD [0] (by decide) rfl) hK hP 0 rfl rfl) rfl rfl hl.1 rfl (lv_room (Nat.le_of_ble_eq_true rfl)) dX12_stands_1 ⟨Nat.le_of_ble_eq_true rfl, Nat.le_of_ble_eq_true rfl⟩) hP hD hS hA [0] [] rfl rfl (by decide) (by decide) (fun u_2 H locs wr_1 hP hD hS => ?_)
  obtain ⟨im_2, rfl⟩ : ∃ z, z = u_2 := ⟨_, rfl⟩
  have hz_2_0 : SB [29, 30, 31, 32, 33, 34, 35, 36, 37, 38, 39, 40, 41] im im_2 := wr_1
  have hk_2_2 : im_2 2 = nI ms := (hz_2_0 2 (by decide)).trans hf_ms
  have hk_2_3 : im_2 3 = nI mk := (hz_2_0 3 (by decide)).trans hf_mk
  have hsb := SB.step hsb hz_2_0 (by decide)
  have hP : va_P D vwCl [(h, .inr (12, mG q im_2))] H := hP
  have hD : va_D A [(h, .inr (12, mG q im_2))] := hD
  refine lv_aload_n hx hb dX12_stands_4 rfl (lv_at hl 0 rfl) ?_
  refine lv_iload_n hx hb dX12_stands_5 rfl (lv_at hl 1 rfl) ?_
  refine va_put (D := D) (ci := 12) (v := .int (nI f1)) (ty := .int) (C := RX12) (T := TX12) (N := 81) hx hb hts inT_X12 tyX12 tyX12_ok nmX12 hown hK.1 hP hD hS 0 rfl rfl 29 (by decide) (hts _ k_1382) (fun _ h9 => h9) rfl (by decide +kernel) rfl rfl (Nat.le_of_ble_eq_true rfl) dX12_stands_6 (fun H locs hP hD hS => ?_)
  obtain ⟨i_3, ei_3⟩ : ∃ z : Nat → Int32, z = upd im_2 29 (nI f1) := ⟨_, rfl⟩
  have hi_3_2 : i_3 2 = nI ms := by rw [ei_3]; exact hk_2_2
  have hi_3_3 : i_3 3 = nI mk := by rw [ei_3]; exact hk_2_3
  have hi_3_29 : i_3 29 = nI f1 := by rw [ei_3]; rfl
  have hsb := SB.put hsb ei_3 (by decide)
  have hP : va_P D vwCl [(h, .inr (12, mG q i_3))] H := by rw [ei_3, ← mG_29]; exact hP
  have hD : va_D A [(h, .inr (12, mG q i_3))] := by rw [ei_3, ← mG_29]; exact hD
  refine lv_aload_n hx hb dX12_stands_9 rfl (lv_at hl 0 rfl) ?_
  refine lv_iload_n hx hb dX12_stands_10 rfl (lv_at hl 2 rfl) ?_
  refine va_put (D := D) (ci := 12) (v := .int (nI s1)) (ty := .int) (C := RX12) (T := TX12) (N := 81) hx hb hts inT_X12 tyX12 tyX12_ok nmX12 hown hK.1 hP hD hS 0 rfl rfl 30 (by decide) (hts _ k_1383) (fun _ h9 => h9) rfl (by decide +kernel) rfl rfl (Nat.le_of_ble_eq_true rfl) dX12_stands_11 (fun H locs hP hD hS => ?_)
  obtain ⟨i_4, ei_4⟩ : ∃ z : Nat → Int32, z = upd i_3 30 (nI s1) := ⟨_, rfl⟩
  have hi_4_2 : i_4 2 = nI ms := by rw [ei_4]; exact hi_3_2
  have hi_4_3 : i_4 3 = nI mk := by rw [ei_4]; exact hi_3_3
  have hi_4_29 : i_4 29 = nI f1 := by rw [ei_4]; exact hi_3_29
  have hi_4_30 : i_4 30 = nI s1 := by rw [ei_4]; rfl
  have hsb := SB.put hsb ei_4 (by decide)
  have hP : va_P D vwCl [(h, .inr (12, mG q i_4))] H := by rw [ei_4, ← mG_30]; exact hP
  have hD : va_D A [(h, .inr (12, mG q i_4))] := by rw [ei_4, ← mG_30]; exact hD
  refine lv_aload_n hx hb dX12_stands_14 rfl (lv_at hl 0 rfl) ?_
  refine lv_iload_n hx hb dX12_stands_15 rfl (lv_at hl 3 rfl) ?_
  refine va_put (D := D) (ci := 12) (v := .int (nI d1)) (ty := .int) (C := RX12) (T := TX12) (N := 81) hx hb hts inT_X12 tyX12 tyX12_ok nmX12 hown hK.1 hP hD hS 0 rfl rfl 31 (by decide) (hts _ k_1384) (fun _ h9 => h9) rfl (by decide +kernel) rfl rfl (Nat.le_of_ble_eq_true rfl) dX12_stands_16 (fun H locs hP hD hS => ?_)
  obtain ⟨i_5, ei_5⟩ : ∃ z : Nat → Int32, z = upd i_4 31 (nI d1) := ⟨_, rfl⟩
  have hi_5_2 : i_5 2 = nI ms := by rw [ei_5]; exact hi_4_2
  have hi_5_3 : i_5 3 = nI mk := by rw [ei_5]; exact hi_4_3
  have hi_5_29 : i_5 29 = nI f1 := by rw [ei_5]; exact hi_4_29
  have hi_5_30 : i_5 30 = nI s1 := by rw [ei_5]; exact hi_4_30
  have hi_5_31 : i_5 31 = nI d1 := by rw [ei_5]; rfl
  have hsb := SB.put hsb ei_5 (by decide)
  have hP : va_P D vwCl [(h, .inr (12, mG q i_5))] H := by rw [ei_5, ← mG_31]; exact hP
  have hD : va_D A [(h, .inr (12, mG q i_5))] := by rw [ei_5, ← mG_31]; exact hD
  refine lv_aload_n hx hb dX12_stands_19 rfl (lv_at hl 0 rfl) ?_
  refine lv_aload_n hx hb dX12_stands_20 rfl (lv_at hl 0 rfl) ?_
  refine va_get (D := D) (ci := 12) (v := .int (i_5 2)) (C := RX12) (T := TX12) (N := 81) hx hb hts inT_X12 hown hK.1 hP 0 rfl rfl 2 (by decide) (hts _ k_1355) (fun _ h9 => h9) rfl dX12_stands_21 ?_
  refine lv_topv (y := nI ms) hi_5_2 ?_
  refine va_put (D := D) (ci := 12) (v := .int (nI ms)) (ty := .int) (C := RX12) (T := TX12) (N := 81) hx hb hts inT_X12 tyX12 tyX12_ok nmX12 hown hK.1 hP hD hS 0 rfl rfl 32 (by decide) (hts _ k_1385) (fun _ h9 => h9) rfl (by decide +kernel) rfl rfl (Nat.le_of_ble_eq_true rfl) dX12_stands_24 (fun H locs hP hD hS => ?_)
  obtain ⟨i_6, ei_6⟩ : ∃ z : Nat → Int32, z = upd i_5 32 (nI ms) := ⟨_, rfl⟩
  have hi_6_2 : i_6 2 = nI ms := by rw [ei_6]; exact hi_5_2
  have hi_6_3 : i_6 3 = nI mk := by rw [ei_6]; exact hi_5_3
  have hi_6_29 : i_6 29 = nI f1 := by rw [ei_6]; exact hi_5_29
  have hi_6_30 : i_6 30 = nI s1 := by rw [ei_6]; exact hi_5_30
  have hi_6_31 : i_6 31 = nI d1 := by rw [ei_6]; exact hi_5_31
  have hi_6_32 : i_6 32 = nI ms := by rw [ei_6]; rfl
  have hsb := SB.put hsb ei_6 (by decide)
  have hP : va_P D vwCl [(h, .inr (12, mG q i_6))] H := by rw [ei_6, ← mG_32]; exact hP
  have hD : va_D A [(h, .inr (12, mG q i_6))] := by rw [ei_6, ← mG_32]; exact hD
  refine lv_aload_n hx hb dX12_stands_27 rfl (lv_at hl 0 rfl) ?_
  refine lv_iload_n hx hb dX12_stands_28 rfl (lv_at hl 1 rfl) ?_
  refine lv_aload_n hx hb dX12_stands_29 rfl (lv_at hl 0 rfl) ?_
  refine va_get (D := D) (ci := 12) (v := .int (i_6 2)) (C := RX12) (T := TX12) (N := 81) hx hb hts inT_X12 hown hK.1 hP 0 rfl rfl 2 (by decide) (hts _ k_1355) (fun _ h9 => h9) rfl dX12_stands_30 ?_
  refine lv_topv (y := nI ms) hi_6_2 ?_
  refine lv_iconst (v := 1) hx hb dX12_stands_33 (by decide) ?_
  refine lv_isub hx hb dX12_stands_34 ?_
  refine lv_iload_n hx hb dX12_stands_35 rfl (lv_at hl 1 rfl) ?_
  refine lv_isub hx hb dX12_stands_36 ?_
  refine lv_topi (fun x_7 ex_7 => ?_)
  refine lv_icmp_ge (tgt := 44) hx hb dX12_stands_37 (by decide) (fun c_8 => ?_) (fun c_8 => ?_)
  · refine lv_aload_n hx hb dX12_stands_44 rfl (lv_at hl 0 rfl) ?_
    refine va_get (D := D) (ci := 12) (v := .int (i_6 2)) (C := RX12) (T := TX12) (N := 81) hx hb hts inT_X12 hown hK.1 hP 0 rfl rfl 2 (by decide) (hts _ k_1355) (fun _ h9 => h9) rfl dX12_stands_45 ?_
    refine lv_topv (y := nI ms) hi_6_2 ?_
    refine lv_iconst (v := 1) hx hb dX12_stands_48 (by decide) ?_
    refine lv_isub hx hb dX12_stands_49 ?_
    refine lv_iload_n hx hb dX12_stands_50 rfl (lv_at hl 1 rfl) ?_
    refine lv_isub hx hb dX12_stands_51 ?_
    refine lv_topi (fun x_9 ex_9 => ?_)
    refine va_put (D := D) (ci := 12) (v := .int x_9) (ty := .int) (C := RX12) (T := TX12) (N := 81) hx hb hts inT_X12 tyX12 tyX12_ok nmX12 hown hK.1 hP hD hS 0 rfl rfl 33 (by decide) (hts _ k_1386) (fun _ h9 => h9) rfl (by decide +kernel) rfl rfl (Nat.le_of_ble_eq_true rfl) dX12_stands_52 (fun H locs hP hD hS => ?_)
    obtain ⟨i_10, ei_10⟩ : ∃ z : Nat → Int32, z = upd i_6 33 x_9 := ⟨_, rfl⟩
    have hi_10_2 : i_10 2 = nI ms := by rw [ei_10]; exact hi_6_2
    have hi_10_3 : i_10 3 = nI mk := by rw [ei_10]; exact hi_6_3
    have hi_10_29 : i_10 29 = nI f1 := by rw [ei_10]; exact hi_6_29
    have hi_10_30 : i_10 30 = nI s1 := by rw [ei_10]; exact hi_6_30
    have hi_10_31 : i_10 31 = nI d1 := by rw [ei_10]; exact hi_6_31
    have hi_10_32 : i_10 32 = nI ms := by rw [ei_10]; exact hi_6_32
    have hi_10_33 : i_10 33 = x_9 := by rw [ei_10]; rfl
    have hsb := SB.put hsb ei_10 (by decide)
    have hP : va_P D vwCl [(h, .inr (12, mG q i_10))] H := by rw [ei_10, ← mG_33]; exact hP
    have hD : va_D A [(h, .inr (12, mG q i_10))] := by rw [ei_10, ← mG_33]; exact hD
    refine lv_aload_n hx hb dX12_stands_55 rfl (lv_at hl 0 rfl) ?_
    refine lv_aload_n hx hb dX12_stands_56 rfl (lv_at hl 0 rfl) ?_
    refine va_get (D := D) (ci := 12) (v := .int (i_10 3)) (C := RX12) (T := TX12) (N := 81) hx hb hts inT_X12 hown hK.1 hP 0 rfl rfl 3 (by decide) (hts _ k_1356) (fun _ h9 => h9) rfl dX12_stands_57 ?_
    refine lv_topv (y := nI mk) hi_10_3 ?_
    refine va_put (D := D) (ci := 12) (v := .int (nI mk)) (ty := .int) (C := RX12) (T := TX12) (N := 81) hx hb hts inT_X12 tyX12 tyX12_ok nmX12 hown hK.1 hP hD hS 0 rfl rfl 34 (by decide) (hts _ k_1387) (fun _ h9 => h9) rfl (by decide +kernel) rfl rfl (Nat.le_of_ble_eq_true rfl) dX12_stands_60 (fun H locs hP hD hS => ?_)
    obtain ⟨i_11, ei_11⟩ : ∃ z : Nat → Int32, z = upd i_10 34 (nI mk) := ⟨_, rfl⟩
    have hi_11_2 : i_11 2 = nI ms := by rw [ei_11]; exact hi_10_2
    have hi_11_3 : i_11 3 = nI mk := by rw [ei_11]; exact hi_10_3
    have hi_11_29 : i_11 29 = nI f1 := by rw [ei_11]; exact hi_10_29
    have hi_11_30 : i_11 30 = nI s1 := by rw [ei_11]; exact hi_10_30
    have hi_11_31 : i_11 31 = nI d1 := by rw [ei_11]; exact hi_10_31
    have hi_11_32 : i_11 32 = nI ms := by rw [ei_11]; exact hi_10_32
    have hi_11_33 : i_11 33 = x_9 := by rw [ei_11]; exact hi_10_33
    have hi_11_34 : i_11 34 = nI mk := by rw [ei_11]; rfl
    have hsb := SB.put hsb ei_11 (by decide)
    have hP : va_P D vwCl [(h, .inr (12, mG q i_11))] H := by rw [ei_11, ← mG_34]; exact hP
    have hD : va_D A [(h, .inr (12, mG q i_11))] := by rw [ei_11, ← mG_34]; exact hD
    exact W.vret hx hb hr (fun tt9 ht hW => ⟨⟨((i_11 : Nat → Int32)), rfl, (lf_X12_stands_12 h q im ms mk f1 s1 d1 hf_ms hf_mk im_2 hz_2_0 i_3 i_4 i_5 i_6 x_7 ex_7 c_8 x_9 ex_9 i_10 i_11 hsb hi_11_2 hi_11_3 hi_11_29 hi_11_30 hi_11_31 hi_11_32 hi_11_33 hi_11_34), ⟨by rw [ht]; exact hP, hD⟩⟩, hS.F ht⟩) hS.2.2 dX12_stands_63 hlocks
  · refine lv_iload_n hx hb dX12_stands_40 rfl (lv_at hl 1 rfl) ?_
    refine lv_goto (tgt := 52) hx hb dX12_stands_41 (by decide) ?_
    refine va_put (D := D) (ci := 12) (v := .int (nI f1)) (ty := .int) (C := RX12) (T := TX12) (N := 81) hx hb hts inT_X12 tyX12 tyX12_ok nmX12 hown hK.1 hP hD hS 0 rfl rfl 33 (by decide) (hts _ k_1386) (fun _ h9 => h9) rfl (by decide +kernel) rfl rfl (Nat.le_of_ble_eq_true rfl) dX12_stands_52 (fun H locs hP hD hS => ?_)
    obtain ⟨i_13, ei_13⟩ : ∃ z : Nat → Int32, z = upd i_6 33 (nI f1) := ⟨_, rfl⟩
    have hi_13_2 : i_13 2 = nI ms := by rw [ei_13]; exact hi_6_2
    have hi_13_3 : i_13 3 = nI mk := by rw [ei_13]; exact hi_6_3
    have hi_13_29 : i_13 29 = nI f1 := by rw [ei_13]; exact hi_6_29
    have hi_13_30 : i_13 30 = nI s1 := by rw [ei_13]; exact hi_6_30
    have hi_13_31 : i_13 31 = nI d1 := by rw [ei_13]; exact hi_6_31
    have hi_13_32 : i_13 32 = nI ms := by rw [ei_13]; exact hi_6_32
    have hi_13_33 : i_13 33 = nI f1 := by rw [ei_13]; rfl
    have hsb := SB.put hsb ei_13 (by decide)
    have hP : va_P D vwCl [(h, .inr (12, mG q i_13))] H := by rw [ei_13, ← mG_33]; exact hP
    have hD : va_D A [(h, .inr (12, mG q i_13))] := by rw [ei_13, ← mG_33]; exact hD
    refine lv_aload_n hx hb dX12_stands_55 rfl (lv_at hl 0 rfl) ?_
    refine lv_aload_n hx hb dX12_stands_56 rfl (lv_at hl 0 rfl) ?_
    refine va_get (D := D) (ci := 12) (v := .int (i_13 3)) (C := RX12) (T := TX12) (N := 81) hx hb hts inT_X12 hown hK.1 hP 0 rfl rfl 3 (by decide) (hts _ k_1356) (fun _ h9 => h9) rfl dX12_stands_57 ?_
    refine lv_topv (y := nI mk) hi_13_3 ?_
    refine va_put (D := D) (ci := 12) (v := .int (nI mk)) (ty := .int) (C := RX12) (T := TX12) (N := 81) hx hb hts inT_X12 tyX12 tyX12_ok nmX12 hown hK.1 hP hD hS 0 rfl rfl 34 (by decide) (hts _ k_1387) (fun _ h9 => h9) rfl (by decide +kernel) rfl rfl (Nat.le_of_ble_eq_true rfl) dX12_stands_60 (fun H locs hP hD hS => ?_)
    obtain ⟨i_14, ei_14⟩ : ∃ z : Nat → Int32, z = upd i_13 34 (nI mk) := ⟨_, rfl⟩
    have hi_14_2 : i_14 2 = nI ms := by rw [ei_14]; exact hi_13_2
    have hi_14_3 : i_14 3 = nI mk := by rw [ei_14]; exact hi_13_3
    have hi_14_29 : i_14 29 = nI f1 := by rw [ei_14]; exact hi_13_29
    have hi_14_30 : i_14 30 = nI s1 := by rw [ei_14]; exact hi_13_30
    have hi_14_31 : i_14 31 = nI d1 := by rw [ei_14]; exact hi_13_31
    have hi_14_32 : i_14 32 = nI ms := by rw [ei_14]; exact hi_13_32
    have hi_14_33 : i_14 33 = nI f1 := by rw [ei_14]; exact hi_13_33
    have hi_14_34 : i_14 34 = nI mk := by rw [ei_14]; rfl
    have hsb := SB.put hsb ei_14 (by decide)
    have hP : va_P D vwCl [(h, .inr (12, mG q i_14))] H := by rw [ei_14, ← mG_34]; exact hP
    have hD : va_D A [(h, .inr (12, mG q i_14))] := by rw [ei_14, ← mG_34]; exact hD
    exact W.vret hx hb hr (fun tt9 ht hW => ⟨⟨((i_14 : Nat → Int32)), rfl, (lf_X12_stands_15 h q im ms mk f1 s1 d1 hf_ms hf_mk im_2 hz_2_0 i_3 i_4 i_5 i_6 x_7 ex_7 c_8 i_13 i_14 hsb hi_14_2 hi_14_3 hi_14_29 hi_14_30 hi_14_31 hi_14_32 hi_14_33 hi_14_34), ⟨by rw [ht]; exact hP, hD⟩⟩, hS.F ht⟩) hS.2.2 dX12_stands_63 hlocks

theorem lf_X12_isOut_2 (n1 : Int32) : (bi ((0 : Int32) ≤ n1 ∧ n1 ≤ 40) : Int32) = bi (0 ≤ n1 ∧ n1 ≤ 40) := by
  rfl
set_option maxHeartbeats 4000000 in
set_option maxRecDepth 100000 in
theorem c_X12_isOut (l : Launch) (D : va_G) (cI cB cZ cJ : ClassId) (tx : List (ClassId × FieldType)) (n1 : Int32) : RdI l D cI cB cZ cJ tx yX12_isOut cX12_isOut 1 (some .boolean) 1 [.int n1] [] (fun r => r = bi (0 ≤ n1 ∧ n1 ≤ 40)) := by
  refine rdi_of2 (by decide) (Nat.le_of_ble_eq_true rfl) ?_
  intro p e s m below meth c A ls H locs hC hK hP hD hA hS hl
  obtain ⟨hx, hb, hr, hml, hown, hts, hlocks, hin⟩ := hC
  have hown : s.vm.findClass RX12 = some m.cls := hown
  have hl : lv_has ls 1 [(0, .int n1)] := hl
  refine lv_iload_n hx hb dX12_isOut_0 rfl (lv_at hl 0 rfl) ?_
  refine lv_i2l (v := n1.toInt64) hx hb dX12_isOut_1 rfl ?_
  refine lv_lconst (v := 0) hx hb dX12_isOut_2 (by decide) ?_
  refine lv_ldc2 (v := 40) hx hb hown (hts _ k_1918) dX12_isOut_3 ?_
  refine eRi (va_runS (As := [.long n1.toInt64, .long 0, .long 40]) (rest := []) ⟨hx, hb, hml, hown, hts⟩ (c_X12_isIn l D cI cB cZ cJ tx n1.toInt64 0 40 H.size) (zS hts k_1602 v_X12_isIn ⟨Nat.le_of_ble_eq_true rfl, Nat.le_of_ble_eq_true rfl⟩) (px0 hK) rfl rfl hl.1 rfl (lv_room (Nat.le_of_ble_eq_true rfl)) dX12_isOut_6 ⟨Nat.le_of_ble_eq_true rfl, Nat.le_of_ble_eq_true rfl⟩) hP hS hA (fun r_1 H locs wr_1 hP hS => ?_)
  have wr_1 : r_1 = bi ((0 : Int32) ≤ n1 ∧ n1 ≤ 40) := isIn32 (lo := 0) (hi := 40) (by decide) (by decide) wr_1
  subst wr_1
  exact W.zret (v := bi ((0 : Int32) ≤ n1 ∧ n1 ≤ 40)) hx hb hr nb_bi (fun tt9 ht hW => ⟨⟨(bi ((0 : Int32) ≤ n1 ∧ n1 ≤ 40) : Int32), (), rfl, (lf_X12_isOut_2 n1), trivial⟩, hS.F ht⟩) hS.2.2 dX12_isOut_9 hlocks

theorem lf_X12_isHeight_2 (n1 : Int32) : True := by
  trivial
set_option maxHeartbeats 4000000 in
set_option maxRecDepth 100000 in
theorem c_X12_isHeight (l : Launch) (D : va_G) (cI cB cZ cJ : ClassId) (tx : List (ClassId × FieldType)) (n1 : Int32) : RdI l D cI cB cZ cJ tx yX12_isHeight cX12_isHeight 1 (some .boolean) 1 [.int n1] [] (fun r => True) := by
  refine rdi_of2 (by decide) (Nat.le_of_ble_eq_true rfl) ?_
  intro p e s m below meth c A ls H locs hC hK hP hD hA hS hl
  obtain ⟨hx, hb, hr, hml, hown, hts, hlocks, hin⟩ := hC
  have hown : s.vm.findClass RX12 = some m.cls := hown
  have hl : lv_has ls 1 [(0, .int n1)] := hl
  refine lv_iload_n hx hb dX12_isHeight_0 rfl (lv_at hl 0 rfl) ?_
  refine lv_i2l (v := n1.toInt64) hx hb dX12_isHeight_1 rfl ?_
  refine lv_lconst (v := 1) hx hb dX12_isHeight_2 (by decide) ?_
  refine lv_ldc2 (v := 200) hx hb hown (hts _ k_1626) dX12_isHeight_3 ?_
  refine eRi (va_runS (As := [.long n1.toInt64, .long 1, .long 200]) (rest := []) ⟨hx, hb, hml, hown, hts⟩ (c_X12_isIn l D cI cB cZ cJ tx n1.toInt64 1 200 H.size) (zS hts k_1602 v_X12_isIn ⟨Nat.le_of_ble_eq_true rfl, Nat.le_of_ble_eq_true rfl⟩) (px0 hK) rfl rfl hl.1 rfl (lv_room (Nat.le_of_ble_eq_true rfl)) dX12_isHeight_6 ⟨Nat.le_of_ble_eq_true rfl, Nat.le_of_ble_eq_true rfl⟩) hP hS hA (fun r_1 H locs wr_1 hP hS => ?_)
  have wr_1 : r_1 = bi ((1 : Int32) ≤ n1 ∧ n1 ≤ 200) := isIn32 (lo := 1) (hi := 200) (by decide) (by decide) wr_1
  subst wr_1
  exact W.zret (v := bi ((1 : Int32) ≤ n1 ∧ n1 ≤ 200)) hx hb hr nb_bi (fun tt9 ht hW => ⟨⟨(bi ((1 : Int32) ≤ n1 ∧ n1 ≤ 200) : Int32), (), rfl, (lf_X12_isHeight_2 n1), trivial⟩, hS.F ht⟩) hS.2.2 dX12_isHeight_9 hlocks

theorem lf_X12_pairOf_1 (f1 : Nat) (i1 : Nat) (s1 : Nat) : (nI ((((61 * f1) + i1) * 61) + s1) : Int32) = nI ((61 * f1 + i1) * 61 + s1) := by
  rfl
set_option maxHeartbeats 4000000 in
set_option maxRecDepth 100000 in
theorem c_X12_pairOf (l : Launch) (D : va_G) (cI cB cZ cJ : ClassId) (tx : List (ClassId × FieldType)) (f1 : Nat) (i1 : Nat) (s1 : Nat) : RdI l D cI cB cZ cJ tx yX12_pairOf cX12_pairOf 3 (some .int) 0 [.int (nI f1), .int (nI i1), .int (nI s1)] [] (fun r => r = nI ((61 * f1 + i1) * 61 + s1)) := by
  refine rdi_of2 (by decide) (Nat.le_of_ble_eq_true rfl) ?_
  intro p e s m below meth c A ls H locs hC hK hP hD hA hS hl
  obtain ⟨hx, hb, hr, hml, hown, hts, hlocks, hin⟩ := hC
  have hown : s.vm.findClass RX12 = some m.cls := hown
  have hl : lv_has ls 3 [(0, .int (nI f1)), (1, .int (nI i1)), (2, .int (nI s1))] := hl
  refine lv_bipush (v := 61) hx hb dX12_pairOf_0 (by decide) ?_
  refine lv_iload_n hx hb dX12_pairOf_2 rfl (lv_at hl 0 rfl) ?_
  refine lv_imul hx hb dX12_pairOf_3 ?_
  refine lv_topv (y := nI (61 * f1)) (pk_mul 61 f1) ?_
  refine lv_iload_n hx hb dX12_pairOf_4 rfl (lv_at hl 1 rfl) ?_
  refine lv_iadd hx hb dX12_pairOf_5 ?_
  refine lv_topv (y := nI ((61 * f1) + i1)) (nI_add (61 * f1) i1) ?_
  refine lv_bipush (v := 61) hx hb dX12_pairOf_6 (by decide) ?_
  refine lv_imul hx hb dX12_pairOf_8 ?_
  refine lv_topv (y := nI (((61 * f1) + i1) * 61)) (pk_mul ((61 * f1) + i1) 61) ?_
  refine lv_iload_n hx hb dX12_pairOf_9 rfl (lv_at hl 2 rfl) ?_
  refine lv_iadd hx hb dX12_pairOf_10 ?_
  refine lv_topv (y := nI ((((61 * f1) + i1) * 61) + s1)) (nI_add (((61 * f1) + i1) * 61) s1) ?_
  exact W.iret (v := nI ((((61 * f1) + i1) * 61) + s1)) hx hb hr (fun tt9 ht hW => ⟨⟨(nI ((((61 * f1) + i1) * 61) + s1) : Int32), (), rfl, (lf_X12_pairOf_1 f1 i1 s1), trivial⟩, hS.F ht⟩) hS.2.2 dX12_pairOf_11 hlocks
