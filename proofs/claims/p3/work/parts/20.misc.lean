theorem best_of {b : Int32} (h : b = -1 ∨ ∃ k : Nat, k < 6 ∧ b = nI k) (c : ¬ b < 0) : ∃ k : Nat, k < 6 ∧ b = nI k := by
  rcases h with rfl | h
  · exact absurd (by decide) c
  · exact h
theorem lf_X8_numberAt_3 (a : Nat → Nat) (tu : Nat) (tb : Nat → Int32) (n1 : Int32) (htu : tu ≤ 220) (x_1 : Int32) (ex_1 : x_1 = n1 * 4) (x_2 : Int32) (ex_2 : x_2 = x_1 + 0) : tu ≤ 220 := by
  first | assumption | omega | decide
theorem lf_X8_numberAt_10 (a : Nat → Nat) (tu : Nat) (tb : Nat → Int32) (n1 : Int32) (htu : tu ≤ 220) (x_1 : Int32) (ex_1 : x_1 = n1 * 4) (x_2 : Int32) (ex_2 : x_2 = x_1 + 0) (r_4 : Int32) (x_5 : Int32) (ex_5 : x_5 = r_4 &&& 255) (x_6 : Int32) (ex_6 : x_6 = 0 ||| x_5) (x_7 : Int32) (ex_7 : x_7 = x_6 <<< (8 &&& 31)) (x_8 : Int32) (ex_8 : x_8 = n1 * 4) (x_9 : Int32) (ex_9 : x_9 = x_8 + 1) : tu ≤ 220 := by
  first | assumption | omega | decide
theorem lf_X8_numberAt_17 (a : Nat → Nat) (tu : Nat) (tb : Nat → Int32) (n1 : Int32) (htu : tu ≤ 220) (x_1 : Int32) (ex_1 : x_1 = n1 * 4) (x_2 : Int32) (ex_2 : x_2 = x_1 + 0) (r_4 : Int32) (x_5 : Int32) (ex_5 : x_5 = r_4 &&& 255) (x_6 : Int32) (ex_6 : x_6 = 0 ||| x_5) (x_7 : Int32) (ex_7 : x_7 = x_6 <<< (8 &&& 31)) (x_8 : Int32) (ex_8 : x_8 = n1 * 4) (x_9 : Int32) (ex_9 : x_9 = x_8 + 1) (r_11 : Int32) (x_12 : Int32) (ex_12 : x_12 = r_11 &&& 255) (x_13 : Int32) (ex_13 : x_13 = x_7 ||| x_12) (x_14 : Int32) (ex_14 : x_14 = x_13 <<< (8 &&& 31)) (x_15 : Int32) (ex_15 : x_15 = n1 * 4) (x_16 : Int32) (ex_16 : x_16 = x_15 + 2) : tu ≤ 220 := by
  first | assumption | omega | decide
theorem lf_X8_numberAt_24 (a : Nat → Nat) (tu : Nat) (tb : Nat → Int32) (n1 : Int32) (htu : tu ≤ 220) (x_1 : Int32) (ex_1 : x_1 = n1 * 4) (x_2 : Int32) (ex_2 : x_2 = x_1 + 0) (r_4 : Int32) (x_5 : Int32) (ex_5 : x_5 = r_4 &&& 255) (x_6 : Int32) (ex_6 : x_6 = 0 ||| x_5) (x_7 : Int32) (ex_7 : x_7 = x_6 <<< (8 &&& 31)) (x_8 : Int32) (ex_8 : x_8 = n1 * 4) (x_9 : Int32) (ex_9 : x_9 = x_8 + 1) (r_11 : Int32) (x_12 : Int32) (ex_12 : x_12 = r_11 &&& 255) (x_13 : Int32) (ex_13 : x_13 = x_7 ||| x_12) (x_14 : Int32) (ex_14 : x_14 = x_13 <<< (8 &&& 31)) (x_15 : Int32) (ex_15 : x_15 = n1 * 4) (x_16 : Int32) (ex_16 : x_16 = x_15 + 2) (r_18 : Int32) (x_19 : Int32) (ex_19 : x_19 = r_18 &&& 255) (x_20 : Int32) (ex_20 : x_20 = x_14 ||| x_19) (x_21 : Int32) (ex_21 : x_21 = x_20 <<< (8 &&& 31)) (x_22 : Int32) (ex_22 : x_22 = n1 * 4) (x_23 : Int32) (ex_23 : x_23 = x_22 + 3) : tu ≤ 220 := by
  first | assumption | omega | decide
set_option maxHeartbeats 4000000 in
set_option maxRecDepth 100000 in
theorem c_X8_numberAt (l : Launch) (D : va_G) (cI cB cZ cJ : ClassId) (tx : List (ClassId × FieldType)) (a : Nat → Nat) (tu : Nat) (tb : Nat → Int32) (n1 : Int32) (htu : tu ≤ 220) : RdI l D cI cB cZ cJ tx yX8_numberAt cX8_numberAt 4 (some .int) 1 [.ref (a 1), .int n1] [(a 1, .inr (8, [.ref (a 17), .int (nI tu)])), (a 17, .inl (cB, 220, .inl tb))] (fun r => True) := by
  refine rdi_of2 (by decide) (Nat.le_of_ble_eq_true rfl) ?_
  intro p e s m below meth c A ls H locs hC hK hP hD hA hS hl
  obtain ⟨hx, hb, hr, hml, hown, hts, hlocks, hin⟩ := hC
  have hown : s.vm.findClass RX8 = some m.cls := hown
  have hl : lv_has ls 4 [(0, .ref (a 1)), (1, .int n1)] := hl
  refine lv_iconst (v := 0) hx hb dX8_numberAt_0 (by decide) ?_
  refine lv_istore_n (lv' := [(2, .int 0), (0, .ref (a 1)), (1, .int n1)]) hx hb dX8_numberAt_1 rfl hl (by decide) rfl (fun ls hl => ?_)
  refine lv_iconst (v := 0) hx hb dX8_numberAt_2 (by decide) ?_
  refine lv_istore_n (lv' := [(3, .int 0), (2, .int 0), (0, .ref (a 1)), (1, .int n1)]) hx hb dX8_numberAt_3 rfl hl (by decide) rfl (fun ls hl => ?_)
  refine lv_iload_n hx hb dX8_numberAt_4 rfl (lv_at hl 0 rfl) ?_
  refine lv_iconst (v := 4) hx hb dX8_numberAt_5 (by decide) ?_
  refine lv_icmp_ge (tgt := 34) hx hb dX8_numberAt_6 (by decide) (fun c => absurd c (by decide)) (fun _ => ?_)
  refine lv_iload_n hx hb dX8_numberAt_9 rfl (lv_at hl 1 rfl) ?_
  refine lv_bipush (v := 8) hx hb dX8_numberAt_10 (by decide) ?_
  refine lv_ishl hx hb dX8_numberAt_12 ?_
  refine lv_topv (y := 0) (by decide) ?_
  refine lv_aload_n hx hb dX8_numberAt_13 rfl (lv_at hl 2 rfl) ?_
  refine lv_iload_n hx hb dX8_numberAt_14 rfl (lv_at hl 3 rfl) ?_
  refine lv_iconst (v := 4) hx hb dX8_numberAt_15 (by decide) ?_
  refine lv_imul hx hb dX8_numberAt_16 ?_
  refine lv_topi (fun x_1 ex_1 => ?_)
  refine lv_iload_n hx hb dX8_numberAt_17 rfl (lv_at hl 0 rfl) ?_
  refine lv_iadd hx hb dX8_numberAt_18 ?_
  refine lv_topi (fun x_2 ex_2 => ?_)
  refine eRi (va_runV (As := [.int x_2]) (rest := [.int 0]) ⟨hx, hb, hml, hown, hts⟩ (c_X8_byteAt l D cI cB cZ cJ tx a tu tb x_2 (lf_X8_numberAt_3 a tu tb n1 htu x_1 ex_1 x_2 ex_2) H.size) (zV hts k_1341 v_X8_byteAt ⟨Nat.le_of_ble_eq_true rfl, Nat.le_of_ble_eq_true rfl⟩) (pV (pxS hK hP hD [0, 1] (by decide) rfl) hK hP 0 rfl rfl) rfl rfl hl.1 rfl (lv_room (Nat.le_of_ble_eq_true rfl)) dX8_numberAt_19 ⟨Nat.le_of_ble_eq_true rfl, Nat.le_of_ble_eq_true rfl⟩) hP hS hA (fun r_4 H locs wr_4 hP hS => ?_)
  refine lv_sipush (v := 255) hx hb dX8_numberAt_22 (by decide) ?_
  refine lv_iand hx hb dX8_numberAt_25 ?_
  refine lv_topi (fun x_5 ex_5 => ?_)
  refine lv_ior hx hb dX8_numberAt_26 ?_
  refine lv_topi (fun x_6 ex_6 => ?_)
  refine lv_istore_n (lv' := [(2, .int x_6), (3, .int 0), (0, .ref (a 1)), (1, .int n1)]) hx hb dX8_numberAt_27 rfl hl (by decide) rfl (fun ls hl => ?_)
  refine lv_iinc (v := 1) (lv' := [(3, .int 1), (2, .int x_6), (0, .ref (a 1)), (1, .int n1)]) hx hb dX8_numberAt_28 hl (k := 1) rfl (by decide) (by decide) rfl (fun ls hl => ?_)
  refine lv_goto (tgt := 4) hx hb dX8_numberAt_31 (by decide) ?_
  refine lv_iload_n hx hb dX8_numberAt_4 rfl (lv_at hl 0 rfl) ?_
  refine lv_iconst (v := 4) hx hb dX8_numberAt_5 (by decide) ?_
  refine lv_icmp_ge (tgt := 34) hx hb dX8_numberAt_6 (by decide) (fun c => absurd c (by decide)) (fun _ => ?_)
  refine lv_iload_n hx hb dX8_numberAt_9 rfl (lv_at hl 1 rfl) ?_
  refine lv_bipush (v := 8) hx hb dX8_numberAt_10 (by decide) ?_
  refine lv_ishl hx hb dX8_numberAt_12 ?_
  refine lv_topi (fun x_7 ex_7 => ?_)
  refine lv_aload_n hx hb dX8_numberAt_13 rfl (lv_at hl 2 rfl) ?_
  refine lv_iload_n hx hb dX8_numberAt_14 rfl (lv_at hl 3 rfl) ?_
  refine lv_iconst (v := 4) hx hb dX8_numberAt_15 (by decide) ?_
  refine lv_imul hx hb dX8_numberAt_16 ?_
  refine lv_topi (fun x_8 ex_8 => ?_)
  refine lv_iload_n hx hb dX8_numberAt_17 rfl (lv_at hl 0 rfl) ?_
  refine lv_iadd hx hb dX8_numberAt_18 ?_
  refine lv_topi (fun x_9 ex_9 => ?_)
  refine eRi (va_runV (As := [.int x_9]) (rest := [.int x_7]) ⟨hx, hb, hml, hown, hts⟩ (c_X8_byteAt l D cI cB cZ cJ tx a tu tb x_9 (lf_X8_numberAt_10 a tu tb n1 htu x_1 ex_1 x_2 ex_2 r_4 x_5 ex_5 x_6 ex_6 x_7 ex_7 x_8 ex_8 x_9 ex_9) H.size) (zV hts k_1341 v_X8_byteAt ⟨Nat.le_of_ble_eq_true rfl, Nat.le_of_ble_eq_true rfl⟩) (pV (pxS hK hP hD [0, 1] (by decide) rfl) hK hP 0 rfl rfl) rfl rfl hl.1 rfl (lv_room (Nat.le_of_ble_eq_true rfl)) dX8_numberAt_19 ⟨Nat.le_of_ble_eq_true rfl, Nat.le_of_ble_eq_true rfl⟩) hP hS hA (fun r_11 H locs wr_11 hP hS => ?_)
  refine lv_sipush (v := 255) hx hb dX8_numberAt_22 (by decide) ?_
  refine lv_iand hx hb dX8_numberAt_25 ?_
  refine lv_topi (fun x_12 ex_12 => ?_)
  refine lv_ior hx hb dX8_numberAt_26 ?_
  refine lv_topi (fun x_13 ex_13 => ?_)
  refine lv_istore_n (lv' := [(2, .int x_13), (3, .int 1), (0, .ref (a 1)), (1, .int n1)]) hx hb dX8_numberAt_27 rfl hl (by decide) rfl (fun ls hl => ?_)
  refine lv_iinc (v := 2) (lv' := [(3, .int 2), (2, .int x_13), (0, .ref (a 1)), (1, .int n1)]) hx hb dX8_numberAt_28 hl (k := 1) rfl (by decide) (by decide) rfl (fun ls hl => ?_)
  refine lv_goto (tgt := 4) hx hb dX8_numberAt_31 (by decide) ?_
  refine lv_iload_n hx hb dX8_numberAt_4 rfl (lv_at hl 0 rfl) ?_
  refine lv_iconst (v := 4) hx hb dX8_numberAt_5 (by decide) ?_
  refine lv_icmp_ge (tgt := 34) hx hb dX8_numberAt_6 (by decide) (fun c => absurd c (by decide)) (fun _ => ?_)
  refine lv_iload_n hx hb dX8_numberAt_9 rfl (lv_at hl 1 rfl) ?_
  refine lv_bipush (v := 8) hx hb dX8_numberAt_10 (by decide) ?_
  refine lv_ishl hx hb dX8_numberAt_12 ?_
  refine lv_topi (fun x_14 ex_14 => ?_)
  refine lv_aload_n hx hb dX8_numberAt_13 rfl (lv_at hl 2 rfl) ?_
  refine lv_iload_n hx hb dX8_numberAt_14 rfl (lv_at hl 3 rfl) ?_
  refine lv_iconst (v := 4) hx hb dX8_numberAt_15 (by decide) ?_
  refine lv_imul hx hb dX8_numberAt_16 ?_
  refine lv_topi (fun x_15 ex_15 => ?_)
  refine lv_iload_n hx hb dX8_numberAt_17 rfl (lv_at hl 0 rfl) ?_
  refine lv_iadd hx hb dX8_numberAt_18 ?_
  refine lv_topi (fun x_16 ex_16 => ?_)
  refine eRi (va_runV (As := [.int x_16]) (rest := [.int x_14]) ⟨hx, hb, hml, hown, hts⟩ (c_X8_byteAt l D cI cB cZ cJ tx a tu tb x_16 (lf_X8_numberAt_17 a tu tb n1 htu x_1 ex_1 x_2 ex_2 r_4 x_5 ex_5 x_6 ex_6 x_7 ex_7 x_8 ex_8 x_9 ex_9 r_11 x_12 ex_12 x_13 ex_13 x_14 ex_14 x_15 ex_15 x_16 ex_16) H.size) (zV hts k_1341 v_X8_byteAt ⟨Nat.le_of_ble_eq_true rfl, Nat.le_of_ble_eq_true rfl⟩) (pV (pxS hK hP hD [0, 1] (by decide) rfl) hK hP 0 rfl rfl) rfl rfl hl.1 rfl (lv_room (Nat.le_of_ble_eq_true rfl)) dX8_numberAt_19 ⟨Nat.le_of_ble_eq_true rfl, Nat.le_of_ble_eq_true rfl⟩) hP hS hA (fun r_18 H locs wr_18 hP hS => ?_)
  refine lv_sipush (v := 255) hx hb dX8_numberAt_22 (by decide) ?_
  refine lv_iand hx hb dX8_numberAt_25 ?_
  refine lv_topi (fun x_19 ex_19 => ?_)
  refine lv_ior hx hb dX8_numberAt_26 ?_
  refine lv_topi (fun x_20 ex_20 => ?_)
  refine lv_istore_n (lv' := [(2, .int x_20), (3, .int 2), (0, .ref (a 1)), (1, .int n1)]) hx hb dX8_numberAt_27 rfl hl (by decide) rfl (fun ls hl => ?_)
  refine lv_iinc (v := 3) (lv' := [(3, .int 3), (2, .int x_20), (0, .ref (a 1)), (1, .int n1)]) hx hb dX8_numberAt_28 hl (k := 1) rfl (by decide) (by decide) rfl (fun ls hl => ?_)
  refine lv_goto (tgt := 4) hx hb dX8_numberAt_31 (by decide) ?_
  refine lv_iload_n hx hb dX8_numberAt_4 rfl (lv_at hl 0 rfl) ?_
  refine lv_iconst (v := 4) hx hb dX8_numberAt_5 (by decide) ?_
  refine lv_icmp_ge (tgt := 34) hx hb dX8_numberAt_6 (by decide) (fun c => absurd c (by decide)) (fun _ => ?_)
  refine lv_iload_n hx hb dX8_numberAt_9 rfl (lv_at hl 1 rfl) ?_
  refine lv_bipush (v := 8) hx hb dX8_numberAt_10 (by decide) ?_
  refine lv_ishl hx hb dX8_numberAt_12 ?_
  refine lv_topi (fun x_21 ex_21 => ?_)
  refine lv_aload_n hx hb dX8_numberAt_13 rfl (lv_at hl 2 rfl) ?_
  refine lv_iload_n hx hb dX8_numberAt_14 rfl (lv_at hl 3 rfl) ?_
  refine lv_iconst (v := 4) hx hb dX8_numberAt_15 (by decide) ?_
  refine lv_imul hx hb dX8_numberAt_16 ?_
  refine lv_topi (fun x_22 ex_22 => ?_)
  refine lv_iload_n hx hb dX8_numberAt_17 rfl (lv_at hl 0 rfl) ?_
  refine lv_iadd hx hb dX8_numberAt_18 ?_
  refine lv_topi (fun x_23 ex_23 => ?_)
  refine eRi (va_runV (As := [.int x_23]) (rest := [.int x_21]) ⟨hx, hb, hml, hown, hts⟩ (c_X8_byteAt l D cI cB cZ cJ tx a tu tb x_23 (lf_X8_numberAt_24 a tu tb n1 htu x_1 ex_1 x_2 ex_2 r_4 x_5 ex_5 x_6 ex_6 x_7 ex_7 x_8 ex_8 x_9 ex_9 r_11 x_12 ex_12 x_13 ex_13 x_14 ex_14 x_15 ex_15 x_16 ex_16 r_18 x_19 ex_19 x_20 ex_20 x_21 ex_21 x_22 ex_22 x_23 ex_23) H.size) (zV hts k_1341 v_X8_byteAt ⟨Nat.le_of_ble_eq_true rfl, Nat.le_of_ble_eq_true rfl⟩) (pV (pxS hK hP hD [0, 1] (by decide) rfl) hK hP 0 rfl rfl) rfl rfl hl.1 rfl (lv_room (Nat.le_of_ble_eq_true rfl)) dX8_numberAt_19 ⟨Nat.le_of_ble_eq_true rfl, Nat.le_of_ble_eq_true rfl⟩) hP hS hA (fun r_25 H locs wr_25 hP hS => ?_)
  refine lv_sipush (v := 255) hx hb dX8_numberAt_22 (by decide) ?_
  refine lv_iand hx hb dX8_numberAt_25 ?_
  refine lv_topi (fun x_26 ex_26 => ?_)
  refine lv_ior hx hb dX8_numberAt_26 ?_
  refine lv_topi (fun x_27 ex_27 => ?_)
  refine lv_istore_n (lv' := [(2, .int x_27), (3, .int 3), (0, .ref (a 1)), (1, .int n1)]) hx hb dX8_numberAt_27 rfl hl (by decide) rfl (fun ls hl => ?_)
  refine lv_iinc (v := 4) (lv' := [(3, .int 4), (2, .int x_27), (0, .ref (a 1)), (1, .int n1)]) hx hb dX8_numberAt_28 hl (k := 1) rfl (by decide) (by decide) rfl (fun ls hl => ?_)
  refine lv_goto (tgt := 4) hx hb dX8_numberAt_31 (by decide) ?_
  refine lv_iload_n hx hb dX8_numberAt_4 rfl (lv_at hl 0 rfl) ?_
  refine lv_iconst (v := 4) hx hb dX8_numberAt_5 (by decide) ?_
  refine lv_icmp_ge (tgt := 34) hx hb dX8_numberAt_6 (by decide) (fun _ => ?_) (fun c => absurd c (by decide))
  refine lv_iload_n hx hb dX8_numberAt_34 rfl (lv_at hl 1 rfl) ?_
  exact W.iret (v := x_27) hx hb hr (fun tt9 ht hW => ⟨⟨(x_27 : Int32), (), rfl, trivial, trivial⟩, hS.F ht⟩) hS.2.2 dX8_numberAt_35 hlocks

theorem lf_X7_partingMost_3 (a : Nat → Nat) (y0 : Nat → Int32) (y1 : Nat → Int32) (y2 : Nat → Int32) (j1 : Nat) (bv : Int32) (k4 : Nat) (hj4 : j1 ≤ 6) (hk4 : 6 < j1 + (k4 + 1)) (hbv : bv = -1 ∨ ∃ k : Nat, k < 6 ∧ bv = nI k) (c_1 : 6 ≤ nI j1) : 6 ≤ j1 := by
  exact (nI_leI (a := 6) (b := j1) (by omega) (by omega)).mp c_1
theorem lf_X7_partingMost_4 (a : Nat → Nat) (y0 : Nat → Int32) (y1 : Nat → Int32) (y2 : Nat → Int32) (j1 : Nat) (bv : Int32) (k4 : Nat) (hj4 : j1 ≤ 6) (hk4 : 6 < j1 + (k4 + 1)) (hbv : bv = -1 ∨ ∃ k : Nat, k < 6 ∧ bv = nI k) (c_1 : 6 ≤ nI j1) (n_2 : 6 ≤ j1) : (bv : Int32) = -1 ∨ ∃ k : Nat, k < 6 ∧ (bv : Int32) = nI k := by
  assumption
theorem lf_X7_partingMost_6 (a : Nat → Nat) (y0 : Nat → Int32) (y1 : Nat → Int32) (y2 : Nat → Int32) (j1 : Nat) (bv : Int32) (k4 : Nat) (hj4 : j1 ≤ 6) (hk4 : 6 < j1 + (k4 + 1)) (hbv : bv = -1 ∨ ∃ k : Nat, k < 6 ∧ bv = nI k) (c_1 : ¬ 6 ≤ nI j1) : j1 < 6 := by
  exact Nat.lt_of_not_le (fun q => c_1 ((nI_leI (a := 6) (b := j1) (by omega) (by omega)).mpr q))
theorem lf_X7_partingMost_7 (a : Nat → Nat) (y0 : Nat → Int32) (y1 : Nat → Int32) (y2 : Nat → Int32) (j1 : Nat) (bv : Int32) (k4 : Nat) (hj4 : j1 ≤ 6) (hk4 : 6 < j1 + (k4 + 1)) (hbv : bv = -1 ∨ ∃ k : Nat, k < 6 ∧ bv = nI k) (c_1 : ¬ 6 ≤ nI j1) (n_5 : j1 < 6) : vp_in (nI j1) 6 := by
  first | exact vp_in_nI (by omega) (by decide) | (unfold vp_in; decide)
theorem lf_X7_partingMost_10 (a : Nat → Nat) (y0 : Nat → Int32) (y1 : Nat → Int32) (y2 : Nat → Int32) (j1 : Nat) (bv : Int32) (k4 : Nat) (hj4 : j1 ≤ 6) (hk4 : 6 < j1 + (k4 + 1)) (hbv : bv = -1 ∨ ∃ k : Nat, k < 6 ∧ bv = nI k) (c_1 : ¬ 6 ≤ nI j1) (n_5 : j1 < 6) (x_8 : Int32) (c_9 : 0 ≤ x_8) : bv = -1 ∨ ∃ k : Nat, k < 6 ∧ bv = nI k := by
  first | assumption | exact Or.inl rfl | exact Or.inr ⟨_, by omega, rfl⟩
theorem lf_X7_partingMost_12 (a : Nat → Nat) (y0 : Nat → Int32) (y1 : Nat → Int32) (y2 : Nat → Int32) (j1 : Nat) (bv : Int32) (k4 : Nat) (hj4 : j1 ≤ 6) (hk4 : 6 < j1 + (k4 + 1)) (hbv : bv = -1 ∨ ∃ k : Nat, k < 6 ∧ bv = nI k) (c_1 : ¬ 6 ≤ nI j1) (n_5 : j1 < 6) (x_8 : Int32) (c_9 : ¬ 0 ≤ x_8) (c_11 : bv < 0) : (nI j1) = -1 ∨ ∃ k : Nat, k < 6 ∧ (nI j1) = nI k := by
  first | assumption | exact Or.inl rfl | exact Or.inr ⟨_, by omega, rfl⟩
theorem lf_X7_partingMost_13 (a : Nat → Nat) (y0 : Nat → Int32) (y1 : Nat → Int32) (y2 : Nat → Int32) (j1 : Nat) (bv : Int32) (k4 : Nat) (hj4 : j1 ≤ 6) (hk4 : 6 < j1 + (k4 + 1)) (hbv : bv = -1 ∨ ∃ k : Nat, k < 6 ∧ bv = nI k) (c_1 : ¬ 6 ≤ nI j1) (n_5 : j1 < 6) (x_8 : Int32) (c_9 : ¬ 0 ≤ x_8) (c_11 : ¬ bv < 0) (kq : Nat) (hkq : kq < 6) (ekq : bv = nI kq) : j1 < 6 := by
  first | assumption | omega | decide
theorem lf_X7_partingMost_15 (a : Nat → Nat) (y0 : Nat → Int32) (y1 : Nat → Int32) (y2 : Nat → Int32) (j1 : Nat) (bv : Int32) (k4 : Nat) (hj4 : j1 ≤ 6) (hk4 : 6 < j1 + (k4 + 1)) (hbv : bv = -1 ∨ ∃ k : Nat, k < 6 ∧ bv = nI k) (c_1 : ¬ 6 ≤ nI j1) (n_5 : j1 < 6) (x_8 : Int32) (c_9 : ¬ 0 ≤ x_8) (c_11 : ¬ bv < 0) (kq : Nat) (hkq : kq < 6) (ekq : bv = nI kq) (r_14 : Int32) : kq < 6 := by
  first | assumption | omega | decide
theorem lf_X7_partingMost_18 (a : Nat → Nat) (y0 : Nat → Int32) (y1 : Nat → Int32) (y2 : Nat → Int32) (j1 : Nat) (bv : Int32) (k4 : Nat) (hj4 : j1 ≤ 6) (hk4 : 6 < j1 + (k4 + 1)) (hbv : bv = -1 ∨ ∃ k : Nat, k < 6 ∧ bv = nI k) (c_1 : ¬ 6 ≤ nI j1) (n_5 : j1 < 6) (x_8 : Int32) (c_9 : ¬ 0 ≤ x_8) (c_11 : ¬ bv < 0) (kq : Nat) (hkq : kq < 6) (ekq : bv = nI kq) (r_14 : Int32) (r_16 : Int32) (c_17 : r_14 ≤ r_16) : (nI kq) = -1 ∨ ∃ k : Nat, k < 6 ∧ (nI kq) = nI k := by
  first | assumption | exact Or.inl rfl | exact Or.inr ⟨_, by omega, rfl⟩
theorem lf_X7_partingMost_19 (a : Nat → Nat) (y0 : Nat → Int32) (y1 : Nat → Int32) (y2 : Nat → Int32) (j1 : Nat) (bv : Int32) (k4 : Nat) (hj4 : j1 ≤ 6) (hk4 : 6 < j1 + (k4 + 1)) (hbv : bv = -1 ∨ ∃ k : Nat, k < 6 ∧ bv = nI k) (c_1 : ¬ 6 ≤ nI j1) (n_5 : j1 < 6) (x_8 : Int32) (c_9 : ¬ 0 ≤ x_8) (c_11 : ¬ bv < 0) (kq : Nat) (hkq : kq < 6) (ekq : bv = nI kq) (r_14 : Int32) (r_16 : Int32) (c_17 : ¬ r_14 ≤ r_16) : (nI j1) = -1 ∨ ∃ k : Nat, k < 6 ∧ (nI j1) = nI k := by
  first | assumption | exact Or.inl rfl | exact Or.inr ⟨_, by omega, rfl⟩
theorem lf_X7_partingMost_20 (a : Nat → Nat) (y0 : Nat → Int32) (y1 : Nat → Int32) (y2 : Nat → Int32) : (((-1)) : Int32) = -1 ∨ ∃ k : Nat, k < 6 ∧ (((-1)) : Int32) = nI k := by
  first | assumption | exact Or.inl rfl | exact Or.inr ⟨_, by omega, rfl⟩
set_option maxHeartbeats 4000000 in
set_option maxRecDepth 100000 in
theorem c_X7_partingMost (l : Launch) (D : va_G) (cI cB cZ cJ : ClassId) (tx : List (ClassId × FieldType)) (a : Nat → Nat) (y0 : Nat → Int32) (y1 : Nat → Int32) (y2 : Nat → Int32) : RdI l D cI cB cZ cJ tx yX7_partingMost cX7_partingMost 3 (some .int) 3 [.ref (a 12)] [(a 12, .inr (7, [.ref (a 48), .ref (a 49), .ref (a 50)])), (a 48, .inl (cI, 36, .inl y0)), (a 49, .inl (cZ, 6, .inl y1)), (a 50, .inl (cI, 6, .inl y2))] (fun r => r = -1 ∨ ∃ k : Nat, k < 6 ∧ r = nI k) := by
  refine rdi_of2 (by decide) (Nat.le_of_ble_eq_true rfl) ?_
  intro p e s m below meth c A ls H locs hC hK hP hD hA hS hl
  obtain ⟨hx, hb, hr, hml, hown, hts, hlocks, hin⟩ := hC
  have hown : s.vm.findClass RX7 = some m.cls := hown
  have hl : lv_has ls 3 [(0, .ref (a 12))] := hl
  refine lv_iconst (v := (-1)) hx hb dX7_partingMost_0 (by decide) ?_
  refine lv_istore_n (lv' := [(1, .int (-1)), (0, .ref (a 12))]) hx hb dX7_partingMost_1 rfl hl (by decide) rfl (fun ls hl => ?_)
  refine lv_iconst (v := 0) hx hb dX7_partingMost_2 (by decide) ?_
  refine lv_istore_n (lv' := [(2, .int 0), (1, .int (-1)), (0, .ref (a 12))]) hx hb dX7_partingMost_3 rfl hl (by decide) rfl (fun ls hl => ?_)
  have lp4 : ∀ (k4 : Nat) (j1 : Nat) (bv : Int32) (H : Heap) (locs : List Loc) (ls : Array Slot), j1 ≤ 6 → 6 < j1 + k4 → (bv = -1 ∨ ∃ k : Nat, k < 6 ∧ bv = nI k) → va_P D vwCl [(a 12, .inr (7, [.ref (a 48), .ref (a 49), .ref (a 50)])), (a 48, .inl (cI, 36, .inl y0)), (a 49, .inl (cZ, 6, .inl y1)), (a 50, .inl (cI, 6, .inl y2))] H → va_S A s.heap H locs → lv_has ls 3 [(2, .int (nI j1)), (1, .int bv), (0, .ref (a 12))] → W p l e (rmX 3 0 0) s m ([.ref (a 12)] : List Value).toArray below meth c H locs 0 0 (MQ below (va_Qi (fun r (_ : Unit) => (fun r => r = -1 ∨ ∃ k : Nat, k < 6 ∧ r = nI k) r) (fun _ _ => True) A) ([.ref (a 12)] : List Value).toArray s 0 0 A) (F0 m 4 ls []) := by
    intro k4
    induction k4 with
    | zero =>
      intro j1 bv H locs ls hj4 hk4 hbv hP hS hl
      exact absurd hk4 (by omega)
    | succ k4 ih4 =>
      intro j1 bv H locs ls hj4 hk4 hbv hP hS hl
      refine lv_iload_n hx hb dX7_partingMost_4 rfl (lv_at hl 0 rfl) ?_
      refine lv_bipush (v := 6) hx hb dX7_partingMost_5 (by decide) ?_
      refine lv_icmp_ge (tgt := 44) hx hb dX7_partingMost_7 (by decide) (fun c_1 => ?_) (fun c_1 => ?_)
      · have n_2 : 6 ≤ j1 := (lf_X7_partingMost_3 a y0 y1 y2 j1 bv k4 hj4 hk4 hbv c_1)
        refine lv_iload_n hx hb dX7_partingMost_44 rfl (lv_at hl 1 rfl) ?_
        exact W.iret (v := bv) hx hb hr (fun tt9 ht hW => ⟨⟨(bv : Int32), (), rfl, (lf_X7_partingMost_4 a y0 y1 y2 j1 bv k4 hj4 hk4 hbv c_1 n_2), trivial⟩, hS.F ht⟩) hS.2.2 dX7_partingMost_45 hlocks
      · have n_5 : j1 < 6 := (lf_X7_partingMost_6 a y0 y1 y2 j1 bv k4 hj4 hk4 hbv c_1)
        refine lv_aload_n hx hb dX7_partingMost_10 rfl (lv_at hl 2 rfl) ?_
        refine va_get (D := D) (ci := 7) (v := .ref (a 50)) (C := RX7) (T := TX7) (N := 3) hx hb hts inT_X7 hown hK.1 hP 0 rfl rfl 2 (by decide) (hts _ k_474) (fun _ h9 => h9) rfl dX7_partingMost_11 ?_
        refine lv_iload_n hx hb dX7_partingMost_14 rfl (lv_at hl 0 rfl) ?_
        refine ld_i hx hb hK hP 3 rfl (lf_X7_partingMost_7 a y0 y1 y2 j1 bv k4 hj4 hk4 hbv c_1 n_5) dX7_partingMost_15 (fun x_8 => ?_)
        refine lv_if_ge (tgt := 38) hx hb dX7_partingMost_16 (by decide) (fun c_9 => ?_) (fun c_9 => ?_)
        · refine lv_iinc (v := nI (j1 + 1)) (lv' := [(2, .int (nI (j1 + 1))), (1, .int bv), (0, .ref (a 12))]) hx hb dX7_partingMost_38 hl (k := 0) rfl (nI_1 j1) (by decide) rfl (fun ls hl => ?_)
          refine lv_goto (tgt := 4) hx hb dX7_partingMost_41 (by decide) ?_
          exact ih4 (j1 + 1) bv H locs ls (by omega) (by omega) (lf_X7_partingMost_10 a y0 y1 y2 j1 bv k4 hj4 hk4 hbv c_1 n_5 x_8 c_9) (hP.sub [0, 1, 2, 3] rfl)  hS (lv_sub hl [0, 1, 2] rfl)
        · refine lv_iload_n hx hb dX7_partingMost_19 rfl (lv_at hl 1 rfl) ?_
          refine lv_if_lt (tgt := 36) hx hb dX7_partingMost_20 (by decide) (fun c_11 => ?_) (fun c_11 => ?_)
          · refine lv_iload_n hx hb dX7_partingMost_36 rfl (lv_at hl 0 rfl) ?_
            refine lv_istore_n (lv' := [(1, .int (nI j1)), (2, .int (nI j1)), (0, .ref (a 12))]) hx hb dX7_partingMost_37 rfl hl (by decide) rfl (fun ls hl => ?_)
            refine lv_iinc (v := nI (j1 + 1)) (lv' := [(2, .int (nI (j1 + 1))), (1, .int (nI j1)), (0, .ref (a 12))]) hx hb dX7_partingMost_38 hl (k := 1) rfl (nI_1 j1) (by decide) rfl (fun ls hl => ?_)
            refine lv_goto (tgt := 4) hx hb dX7_partingMost_41 (by decide) ?_
            exact ih4 (j1 + 1) (nI j1) H locs ls (by omega) (by omega) (lf_X7_partingMost_12 a y0 y1 y2 j1 bv k4 hj4 hk4 hbv c_1 n_5 x_8 c_9 c_11) (hP.sub [0, 1, 2, 3] rfl)  hS (lv_sub hl [0, 1, 2] rfl)
          · obtain ⟨kq, hkq, ekq⟩ := best_of hbv c_11
            subst ekq
            refine lv_aload_n hx hb dX7_partingMost_23 rfl (lv_at hl 2 rfl) ?_
            refine lv_iload_n hx hb dX7_partingMost_24 rfl (lv_at hl 0 rfl) ?_
            refine eRi (va_runV (As := [.int (nI j1)]) (rest := []) ⟨hx, hb, hml, hown, hts⟩ (c_X7_parted l D cI cB cZ cJ tx a y0 y1 y2 j1 (lf_X7_partingMost_13 a y0 y1 y2 j1 (nI kq) k4 hj4 hk4 hbv c_1 n_5 x_8 c_9 c_11 kq hkq rfl) H.size) (zV hts k_1226 v_X7_parted ⟨Nat.le_of_ble_eq_true rfl, Nat.le_of_ble_eq_true rfl⟩) (pV (pxS hK hP hD [0, 1, 2, 3] (by decide) rfl) hK hP 0 rfl rfl) rfl rfl hl.1 rfl (lv_room (Nat.le_of_ble_eq_true rfl)) dX7_partingMost_25 ⟨Nat.le_of_ble_eq_true rfl, Nat.le_of_ble_eq_true rfl⟩) hP hS hA (fun r_14 H locs wr_14 hP hS => ?_)
            refine lv_aload_n hx hb dX7_partingMost_28 rfl (lv_at hl 2 rfl) ?_
            refine lv_iload_n hx hb dX7_partingMost_29 rfl (lv_at hl 1 rfl) ?_
            refine eRi (va_runV (As := [.int (nI kq)]) (rest := [.int r_14]) ⟨hx, hb, hml, hown, hts⟩ (c_X7_parted l D cI cB cZ cJ tx a y0 y1 y2 kq (lf_X7_partingMost_15 a y0 y1 y2 j1 (nI kq) k4 hj4 hk4 hbv c_1 n_5 x_8 c_9 c_11 kq hkq rfl r_14) H.size) (zV hts k_1226 v_X7_parted ⟨Nat.le_of_ble_eq_true rfl, Nat.le_of_ble_eq_true rfl⟩) (pV (pxS hK hP hD [0, 1, 2, 3] (by decide) rfl) hK hP 0 rfl rfl) rfl rfl hl.1 rfl (lv_room (Nat.le_of_ble_eq_true rfl)) dX7_partingMost_30 ⟨Nat.le_of_ble_eq_true rfl, Nat.le_of_ble_eq_true rfl⟩) hP hS hA (fun r_16 H locs wr_16 hP hS => ?_)
            refine lv_icmp_le (tgt := 38) hx hb dX7_partingMost_33 (by decide) (fun c_17 => ?_) (fun c_17 => ?_)
            · refine lv_iinc (v := nI (j1 + 1)) (lv' := [(2, .int (nI (j1 + 1))), (1, .int (nI kq)), (0, .ref (a 12))]) hx hb dX7_partingMost_38 hl (k := 0) rfl (nI_1 j1) (by decide) rfl (fun ls hl => ?_)
              refine lv_goto (tgt := 4) hx hb dX7_partingMost_41 (by decide) ?_
              exact ih4 (j1 + 1) (nI kq) H locs ls (by omega) (by omega) (lf_X7_partingMost_18 a y0 y1 y2 j1 (nI kq) k4 hj4 hk4 hbv c_1 n_5 x_8 c_9 c_11 kq hkq rfl r_14 r_16 c_17) (hP.sub [0, 1, 2, 3] rfl)  hS (lv_sub hl [0, 1, 2] rfl)
            · refine lv_iload_n hx hb dX7_partingMost_36 rfl (lv_at hl 0 rfl) ?_
              refine lv_istore_n (lv' := [(1, .int (nI j1)), (2, .int (nI j1)), (0, .ref (a 12))]) hx hb dX7_partingMost_37 rfl hl (by decide) rfl (fun ls hl => ?_)
              refine lv_iinc (v := nI (j1 + 1)) (lv' := [(2, .int (nI (j1 + 1))), (1, .int (nI j1)), (0, .ref (a 12))]) hx hb dX7_partingMost_38 hl (k := 1) rfl (nI_1 j1) (by decide) rfl (fun ls hl => ?_)
              refine lv_goto (tgt := 4) hx hb dX7_partingMost_41 (by decide) ?_
              exact ih4 (j1 + 1) (nI j1) H locs ls (by omega) (by omega) (lf_X7_partingMost_19 a y0 y1 y2 j1 (nI kq) k4 hj4 hk4 hbv c_1 n_5 x_8 c_9 c_11 kq hkq rfl r_14 r_16 c_17) (hP.sub [0, 1, 2, 3] rfl)  hS (lv_sub hl [0, 1, 2] rfl)
  exact lp4 (6 + 1) 0 (-1) H locs ls (by omega) (by omega) (lf_X7_partingMost_20 a y0 y1 y2) (hP.sub [0, 1, 2, 3] rfl)  hS (lv_sub hl [0, 1, 2] rfl)

theorem lf_X0_areTwo_3 (a : Nat → Nat) (dm : Nat) (n1 : Int32) (n2 : Int32) (hdm : dm ≤ 4) (c_2 : ¬ ((0 : Int32) ≤ n1 ∧ n1 ≤ nI dm - 1)) : ((0 : Int32) = 0) ∨ (∃ f g : Nat, f < dm ∧ g < dm ∧ n1 = nI f ∧ n2 = nI g ∧ (0 : Int32) = 1) := by
  first | exact Or.inl rfl | exact Or.inr ⟨tn1, tn2, tn1a, tn2a, tn1e, tn2e, rfl⟩
theorem lf_X0_areTwo_4 (a : Nat → Nat) (dm : Nat) (n1 : Int32) (n2 : Int32) (hdm : dm ≤ 4) (c_2 : (0 : Int32) ≤ n1 ∧ n1 ≤ nI dm - 1) : dm < 2 ^ 31 := by
  omega
theorem lf_X0_areTwo_7 (a : Nat → Nat) (dm : Nat) (n1 : Int32) (n2 : Int32) (hdm : dm ≤ 4) (c_2 : (0 : Int32) ≤ n1 ∧ n1 ≤ nI dm - 1) (tn1 : Nat) (tn1a : tn1 < dm) (tn1e : n1 = nI tn1) (c_6 : ¬ ((0 : Int32) ≤ n2 ∧ n2 ≤ nI dm - 1)) : ((0 : Int32) = 0) ∨ (∃ f g : Nat, f < dm ∧ g < dm ∧ n1 = nI f ∧ n2 = nI g ∧ (0 : Int32) = 1) := by
  first | exact Or.inl rfl | exact Or.inr ⟨tn1, tn2, tn1a, tn2a, tn1e, tn2e, rfl⟩
theorem lf_X0_areTwo_8 (a : Nat → Nat) (dm : Nat) (n1 : Int32) (n2 : Int32) (hdm : dm ≤ 4) (c_2 : (0 : Int32) ≤ n1 ∧ n1 ≤ nI dm - 1) (tn1 : Nat) (tn1a : tn1 < dm) (tn1e : n1 = nI tn1) (c_6 : (0 : Int32) ≤ n2 ∧ n2 ≤ nI dm - 1) : dm < 2 ^ 31 := by
  omega
theorem lf_X0_areTwo_11 (a : Nat → Nat) (dm : Nat) (n1 : Int32) (n2 : Int32) (hdm : dm ≤ 4) (c_2 : (0 : Int32) ≤ n1 ∧ n1 ≤ nI dm - 1) (tn1 : Nat) (tn1a : tn1 < dm) (tn1e : n1 = nI tn1) (c_6 : (0 : Int32) ≤ n2 ∧ n2 ≤ nI dm - 1) (tn2 : Nat) (tn2a : tn2 < dm) (tn2e : n2 = nI tn2) (c_9 : nI tn1 = nI tn2) : tn1 = tn2 := by
  exact (nI_eq (a := tn1) (b := tn2) (by omega) (by omega)).mp c_9
theorem lf_X0_areTwo_12 (a : Nat → Nat) (dm : Nat) (n1 : Int32) (n2 : Int32) (hdm : dm ≤ 4) (c_2 : (0 : Int32) ≤ n1 ∧ n1 ≤ nI dm - 1) (tn1 : Nat) (tn1a : tn1 < dm) (tn1e : n1 = nI tn1) (c_6 : (0 : Int32) ≤ n2 ∧ n2 ≤ nI dm - 1) (tn2 : Nat) (tn2a : tn2 < dm) (tn2e : n2 = nI tn2) (c_9 : nI tn1 = nI tn2) (n_10 : tn1 = tn2) : ((0 : Int32) = 0) ∨ (∃ f g : Nat, f < dm ∧ g < dm ∧ n1 = nI f ∧ n2 = nI g ∧ (0 : Int32) = 1) := by
  first | exact Or.inl rfl | exact Or.inr ⟨tn1, tn2, tn1a, tn2a, tn1e, tn2e, rfl⟩
theorem lf_X0_areTwo_14 (a : Nat → Nat) (dm : Nat) (n1 : Int32) (n2 : Int32) (hdm : dm ≤ 4) (c_2 : (0 : Int32) ≤ n1 ∧ n1 ≤ nI dm - 1) (tn1 : Nat) (tn1a : tn1 < dm) (tn1e : n1 = nI tn1) (c_6 : (0 : Int32) ≤ n2 ∧ n2 ≤ nI dm - 1) (tn2 : Nat) (tn2a : tn2 < dm) (tn2e : n2 = nI tn2) (c_9 : ¬ nI tn1 = nI tn2) : tn1 ≠ tn2 := by
  exact fun q => c_9 ((nI_eq (a := tn1) (b := tn2) (by omega) (by omega)).mpr q)
theorem lf_X0_areTwo_15 (a : Nat → Nat) (dm : Nat) (n1 : Int32) (n2 : Int32) (hdm : dm ≤ 4) (c_2 : (0 : Int32) ≤ n1 ∧ n1 ≤ nI dm - 1) (tn1 : Nat) (tn1a : tn1 < dm) (tn1e : n1 = nI tn1) (c_6 : (0 : Int32) ≤ n2 ∧ n2 ≤ nI dm - 1) (tn2 : Nat) (tn2a : tn2 < dm) (tn2e : n2 = nI tn2) (c_9 : ¬ nI tn1 = nI tn2) (n_13 : tn1 ≠ tn2) : ((1 : Int32) = 0) ∨ (∃ f g : Nat, f < dm ∧ g < dm ∧ n1 = nI f ∧ n2 = nI g ∧ (1 : Int32) = 1) := by
  first | exact Or.inl rfl | exact Or.inr ⟨tn1, tn2, tn1a, tn2a, tn1e, tn2e, rfl⟩
set_option maxHeartbeats 4000000 in
set_option maxRecDepth 100000 in
theorem c_X0_areTwo (l : Launch) (D : va_G) (cI cB cZ cJ : ClassId) (tx : List (ClassId × FieldType)) (a : Nat → Nat) (dm : Nat) (n1 : Int32) (n2 : Int32) (hdm : dm ≤ 4) : RdI l D cI cB cZ cJ tx yX0_areTwo cX0_areTwo 3 (some .boolean) 2 [.ref (a 6), .int n1, .int n2] [(a 6, .inr (0, [.ref (a 5), .ref (a 25), .ref (a 26), .ref (a 27), .ref (a 28), .ref (a 29), .int (nI dm)]))] (fun r => (r = 0) ∨ (∃ f g : Nat, f < dm ∧ g < dm ∧ n1 = nI f ∧ n2 = nI g ∧ r = 1)) := by
  refine rdi_of2 (by decide) (Nat.le_of_ble_eq_true rfl) ?_
  intro p e s m below meth c A ls H locs hC hK hP hD hA hS hl
  obtain ⟨hx, hb, hr, hml, hown, hts, hlocks, hin⟩ := hC
  have hown : s.vm.findClass RX0 = some m.cls := hown
  have hl : lv_has ls 3 [(0, .ref (a 6)), (1, .int n1), (2, .int n2)] := hl
  refine lv_aload_n hx hb dX0_areTwo_0 rfl (lv_at hl 0 rfl) ?_
  refine lv_iload_n hx hb dX0_areTwo_1 rfl (lv_at hl 1 rfl) ?_
  refine eRi (va_runV (As := [.int n1]) (rest := []) ⟨hx, hb, hml, hown, hts⟩ (c_X0_has l D cI cB cZ cJ tx a dm n1 H.size) (zV hts k_928 v_X0_has ⟨Nat.le_of_ble_eq_true rfl, Nat.le_of_ble_eq_true rfl⟩) (pV (px1 hK hP 0 rfl) hK hP 0 rfl rfl) rfl rfl hl.1 rfl (lv_room (Nat.le_of_ble_eq_true rfl)) dX0_areTwo_2 ⟨Nat.le_of_ble_eq_true rfl, Nat.le_of_ble_eq_true rfl⟩) hP hS hA (fun r_1 H locs wr_1 hP hS => ?_)
  subst wr_1
  refine lv_bi_eq (tgt := 25) hx hb dX0_areTwo_5 (by decide) (fun c_2 => ?_) (fun c_2 => ?_)
  · refine lv_iconst (v := 0) hx hb dX0_areTwo_25 (by decide) ?_
    exact W.zret (v := 0) hx hb hr (by decide) (fun tt9 ht hW => ⟨⟨(0 : Int32), (), rfl, (lf_X0_areTwo_3 a dm n1 n2 hdm c_2), trivial⟩, hS.F ht⟩) hS.2.2 dX0_areTwo_26 hlocks
  · obtain ⟨tn1, tn1a, tn1e⟩ := of_within (lf_X0_areTwo_4 a dm n1 n2 hdm c_2) c_2
    subst tn1e
    refine lv_aload_n hx hb dX0_areTwo_8 rfl (lv_at hl 0 rfl) ?_
    refine lv_iload_n hx hb dX0_areTwo_9 rfl (lv_at hl 2 rfl) ?_
    refine eRi (va_runV (As := [.int n2]) (rest := []) ⟨hx, hb, hml, hown, hts⟩ (c_X0_has l D cI cB cZ cJ tx a dm n2 H.size) (zV hts k_928 v_X0_has ⟨Nat.le_of_ble_eq_true rfl, Nat.le_of_ble_eq_true rfl⟩) (pV (px1 hK hP 0 rfl) hK hP 0 rfl rfl) rfl rfl hl.1 rfl (lv_room (Nat.le_of_ble_eq_true rfl)) dX0_areTwo_10 ⟨Nat.le_of_ble_eq_true rfl, Nat.le_of_ble_eq_true rfl⟩) hP hS hA (fun r_5 H locs wr_5 hP hS => ?_)
    subst wr_5
    refine lv_bi_eq (tgt := 25) hx hb dX0_areTwo_13 (by decide) (fun c_6 => ?_) (fun c_6 => ?_)
    · refine lv_iconst (v := 0) hx hb dX0_areTwo_25 (by decide) ?_
      exact W.zret (v := 0) hx hb hr (by decide) (fun tt9 ht hW => ⟨⟨(0 : Int32), (), rfl, (lf_X0_areTwo_7 a dm (nI tn1) n2 hdm c_2 tn1 tn1a rfl c_6), trivial⟩, hS.F ht⟩) hS.2.2 dX0_areTwo_26 hlocks
    · obtain ⟨tn2, tn2a, tn2e⟩ := of_within (lf_X0_areTwo_8 a dm (nI tn1) n2 hdm c_2 tn1 tn1a rfl c_6) c_6
      subst tn2e
      refine lv_iload_n hx hb dX0_areTwo_16 rfl (lv_at hl 1 rfl) ?_
      refine lv_iload_n hx hb dX0_areTwo_17 rfl (lv_at hl 2 rfl) ?_
      refine lv_icmp_eq (tgt := 25) hx hb dX0_areTwo_18 (by decide) (fun c_9 => ?_) (fun c_9 => ?_)
      · have n_10 : tn1 = tn2 := (lf_X0_areTwo_11 a dm (nI tn1) (nI tn2) hdm c_2 tn1 tn1a rfl c_6 tn2 tn2a rfl c_9)
        refine lv_iconst (v := 0) hx hb dX0_areTwo_25 (by decide) ?_
        exact W.zret (v := 0) hx hb hr (by decide) (fun tt9 ht hW => ⟨⟨(0 : Int32), (), rfl, (lf_X0_areTwo_12 a dm (nI tn1) (nI tn2) hdm c_2 tn1 tn1a rfl c_6 tn2 tn2a rfl c_9 n_10), trivial⟩, hS.F ht⟩) hS.2.2 dX0_areTwo_26 hlocks
      · have n_13 : tn1 ≠ tn2 := (lf_X0_areTwo_14 a dm (nI tn1) (nI tn2) hdm c_2 tn1 tn1a rfl c_6 tn2 tn2a rfl c_9)
        refine lv_iconst (v := 1) hx hb dX0_areTwo_21 (by decide) ?_
        refine lv_goto (tgt := 26) hx hb dX0_areTwo_22 (by decide) ?_
        exact W.zret (v := 1) hx hb hr (by decide) (fun tt9 ht hW => ⟨⟨(1 : Int32), (), rfl, (lf_X0_areTwo_15 a dm (nI tn1) (nI tn2) hdm c_2 tn1 tn1a rfl c_6 tn2 tn2a rfl c_9 n_13), trivial⟩, hS.F ht⟩) hS.2.2 dX0_areTwo_26 hlocks
