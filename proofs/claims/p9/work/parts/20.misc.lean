theorem best_of {b : Int32} (h : b = -1 ∨ ∃ k : Nat, k < 6 ∧ b = nI k) (c : ¬ b < 0) : ∃ k : Nat, k < 6 ∧ b = nI k := by
  rcases h with rfl | h
  · exact absurd (by decide) c
  · exact h
theorem lf_X8_numberAt_3 (a : Nat → Nat) (tu : Nat) (tb : Nat → Int32) (n1 : Int32) (htu : tu ≤ 220) (x_1 : Int32) (ex_1 : x_1 = n1 * 4) (x_2 : Int32) (ex_2 : x_2 = x_1 + 0) : tu ≤ 220 := by
  first | assumption | omega | decide
theorem lf_X8_numberAt_10 (a : Nat → Nat) (tu : Nat) (tb : Nat → Int32) (n1 : Int32) (htu : tu ≤ 220) (x_1 : Int32) (ex_1 : x_1 = n1 * 4) (x_2 : Int32) (ex_2 : x_2 = x_1 + 0) (r_4 : Int32) (x_5 : Int32) (ex_5 : x_5 = r_4 &&& 255) (x_6 : Int32) (ex_6 : x_6 = 0 ||| x_5) (x_7 : Int32) (ex_7 : x_7 = x_6 <<< (8 &&& 31)) (x_8 : Int32) (ex_8 : x_8 = n1 * 4) (x_9 : Int32) (ex_9 : x_9 = x_8 + 1) : tu ≤ 220 := by
  first | assumption | omega | decide
theorem lf_X8_numberAt_17 (a : Nat → Nat) (tu : Nat) (tb : Nat → Int32) (n1 : Int32) (htu : tu ≤ 220) (x_1 : Int32) (ex_1 : x_1 = n1 * 4) (x_2 : Int32) (ex_2 : x_2 = x_1 + 0) (r_4 : Int32) (x_5 : Int32) (ex_5 : x_5 = r_4 &&& 255) (x_6 : Int32) (ex_6 : x_6 = 0 ||| x_5) (x_7 : Int32) (ex_7 : x_7 = x_6 <<< (8 &&& 31)) (x_8 : Int32) (ex_8 : x_8 = n1 * 4) (x_9 : Int32) (ex_9 : x_9 = x_8 + 1) (r_11 : Int32) (x_12 : Int32) (ex_12 : x_12 = r_11 &&& 255) (x_13 : Int32) (ex_13 : x_13 = x_7 ||| x_12) (x_14 : Int32) (ex_14 : x_14 = x_13 <<< (8 &&& 31)) (x_15 : Int32) (ex_15 : x_15 = n1 * 4) (x_16 : Int32) (ex_16 : x_16 = x_15 + 2) : tu ≤ 220 := by
  first | assumption | omega | decide
theorem lf_X8_numberAt_24 (a : Nat → Nat) (tu : Nat) (tb : Nat → Int32) (n1 : Int32) (htu : tu ≤ 220) (x_1 : Int32) (ex_1 : x_1 = n1 * 4) (x_2 : Int32) (ex_2 : x_2 = x_1 + 0) (r_4 : Int32) (x_5 : Int32) (ex_5 : x_5 = r_4 &&& 255) (x_6 : Int32) (ex_6 : x_6 = 0 ||| x_5) (x_7 : Int32) (ex_7 : x_7 = x_6 <<< (8 &&& 31)) (x_8 : Int32) (ex_8 : x_8 = n1 * 4) (x_9 : Int32) (ex_9 : x_9 = x_8 + 1) (r_11 : Int32) (x_12 : Int32) (ex_12 : x_12 = r_11 &&& 255) (x_13 : Int32) (ex_13 : x_13 = x_7 ||| x_12) (x_14 : Int32) (ex_14 : x_14 = x_13 <<< (8 &&& 31)) (x_15 : Int32) (ex_15 : x_15 = n1 * 4) (x_16 : Int32) (ex_16 : x_16 = x_15 + 2) (r_18 : Int32) (x_19 : Int32) (ex_19 : x_19 = r_18 &&& 255) (x_20 : Int32) (ex_20 : x_20 = x_14 ||| x_19) (x_21 : Int32) (ex_21 : x_21 = x_20 <<< (8 &&& 31)) (x_22 : Int32) (ex_22 : x_22 = n1 * 4) (x_23 : Int32) (ex_23 : x_23 = x_22 + 3) : tu ≤ 220 := by
  first | assumption | omega | decide
set_option maxHeartbeats 4000000 in
set_option maxRecDepth 100000 in
theorem c_X8_numberAt (l : Launch) (D : va_G) (cI cB cZ cJ : ClassId) (tx : List (ClassId × FieldType)) (a : Nat → Nat) (tu : Nat) (tb : Nat → Int32) (n1 : Int32) (htu : tu ≤ 220) : RdI l D cI cB cZ cJ tx yX8_numberAt cX8_numberAt 4 (some .int) 1 [.ref (a 1), .int n1] [(a 1, .inr (8, [.ref (a 17), .int (nI tu)])), (a 17, .inl (cB, 220, .inl tb))] (fun r => True) := by
  refine rdi_of2 (by decide) (Nat.le_of_ble_eq_true rfl) ?_
  intro p e s m below meth c A ls H locs hC hK hP hD hA hS hl
  obtain ⟨hx, hb, hr, hml, hown, hts, hlocks, hin⟩ := hC
  have hown : s.vm.findClass RX8 = some m.cls := hown
  have hl : lv_has ls 4 [(0, .ref (a 1)), (1, .int n1)] := hl
  refine lv_iconst (v := 0) hx hb dX8_numberAt_0 (by decide) ?_
  refine lv_istore_n (lv' := [(2, .int 0), (0, .ref (a 1)), (1, .int n1)]) hx hb dX8_numberAt_1 rfl hl (by decide) rfl (fun ls hl => ?_)
  refine lv_iconst (v := 0) hx hb dX8_numberAt_2 (by decide) ?_
  refine lv_istore_n (lv' := [(3, .int 0), (2, .int 0), (0, .ref (a 1)), (1, .int n1)]) hx hb dX8_numberAt_3 rfl hl (by decide) rfl (fun ls hl => ?_)
  refine lv_iload_n hx hb dX8_numberAt_4 rfl (lv_at hl 0 rfl) ?_
  refine lv_iconst (v := 4) hx hb dX8_numberAt_5 (by decide) ?_
  refine lv_icmp_ge (tgt := 34) hx hb dX8_numberAt_6 (by decide) (fun c => absurd c (by decide)) (fun _ => ?_)
  refine lv_iload_n hx hb dX8_numberAt_9 rfl (lv_at hl 1 rfl) ?_
  refine lv_bipush (v := 8) hx hb dX8_numberAt_10 (by decide) ?_
  refine lv_ishl hx hb dX8_numberAt_12 ?_
  refine lv_topv (y := 0) (by decide) ?_
  refine lv_aload_n hx hb dX8_numberAt_13 rfl (lv_at hl 2 rfl) ?_
  refine lv_iload_n hx hb dX8_numberAt_14 rfl (lv_at hl 3 rfl) ?_
  refine lv_iconst (v := 4) hx hb dX8_numberAt_15 (by decide) ?_
  refine lv_imul hx hb dX8_numberAt_16 ?_
  refine lv_topi (fun x_1 ex_1 => ?_)
  refine lv_iload_n hx hb dX8_numberAt_17 rfl (lv_at hl 0 rfl) ?_
  refine lv_iadd hx hb dX8_numberAt_18 ?_
  refine lv_topi (fun x_2 ex_2 => ?_)
  refine eRi (va_runV (As := [.int x_2]) (rest := [.int 0]) ⟨hx, hb, hml, hown, hts⟩ (c_X8_byteAt l D cI cB cZ cJ tx a tu tb x_2 (lf_X8_numberAt_3 a tu tb n1 htu x_1 ex_1 x_2 ex_2) H.size) (zV hts k_1341 v_X8_byteAt ⟨Nat.le_of_ble_eq_true rfl, Nat.le_of_ble_eq_true rfl⟩) (pV (pxS hK hP hD [0, 1] (by decide) rfl) hK hP 0 rfl rfl) rfl rfl hl.1 rfl (lv_room (Nat.le_of_ble_eq_true rfl)) dX8_numberAt_19 ⟨Nat.le_of_ble_eq_true rfl, Nat.le_of_ble_eq_true rfl⟩) hP hS hA (fun r_4 H locs wr_4 hP hS => ?_)
  refine lv_sipush (v := 255) hx hb dX8_numberAt_22 (by decide) ?_
  refine lv_iand hx hb dX8_numberAt_25 ?_
  refine lv_topi (fun x_5 ex_5 => ?_)
  refine lv_ior hx hb dX8_numberAt_26 ?_
  refine lv_topi (fun x_6 ex_6 => ?_)
  refine lv_istore_n (lv' := [(2, .int x_6), (3, .int 0), (0, .ref (a 1)), (1, .int n1)]) hx hb dX8_numberAt_27 rfl hl (by decide) rfl (fun ls hl => ?_)
  refine lv_iinc (v := 1) (lv' := [(3, .int 1), (2, .int x_6), (0, .ref (a 1)), (1, .int n1)]) hx hb dX8_numberAt_28 hl (k := 1) rfl (by decide) (by decide) rfl (fun ls hl => ?_)
  refine lv_goto (tgt := 4) hx hb dX8_numberAt_31 (by decide) ?_
  refine lv_iload_n hx hb dX8_numberAt_4 rfl (lv_at hl 0 rfl) ?_
  refine lv_iconst (v := 4) hx hb dX8_numberAt_5 (by decide) ?_
  refine lv_icmp_ge (tgt := 34) hx hb dX8_numberAt_6 (by decide) (fun c => absurd c (by decide)) (fun _ => ?_)
  refine lv_iload_n hx hb dX8_numberAt_9 rfl (lv_at hl 1 rfl) ?_
  refine lv_bipush (v := 8) hx hb dX8_numberAt_10 (by decide) ?_
  refine lv_ishl hx hb dX8_numberAt_12 ?_
  refine lv_topi (fun x_7 ex_7 => ?_)
  refine lv_aload_n hx hb dX8_numberAt_13 rfl (lv_at hl 2 rfl) ?_
  refine lv_iload_n hx hb dX8_numberAt_14 rfl (lv_at hl 3 rfl) ?_
  refine lv_iconst (v := 4) hx hb dX8_numberAt_15 (by decide) ?_
  refine lv_imul hx hb dX8_numberAt_16 ?_
  refine lv_topi (fun x_8 ex_8 => ?_)
  refine lv_iload_n hx hb dX8_numberAt_17 rfl (lv_at hl 0 rfl) ?_
  refine lv_iadd hx hb dX8_numberAt_18 ?_
  refine lv_topi (fun x_9 ex_9 => ?_)
  refine eRi (va_runV (As := [.int x_9]) (rest := [.int x_7]) ⟨hx, hb, hml, hown, hts⟩ (c_X8_byteAt l D cI cB cZ cJ tx a tu tb x_9 (lf_X8_numberAt_10 a tu tb n1 htu x_1 ex_1 x_2 ex_2 r_4 x_5 ex_5 x_6 ex_6 x_7 ex_7 x_8 ex_8 x_9 ex_9) H.size) (zV hts k_1341 v_X8_byteAt ⟨Nat.le_of_ble_eq_true rfl, Nat.le_of_ble_eq_true rfl⟩) (pV (pxS hK hP hD [0, 1] (by decide) rfl) hK hP 0 rfl rfl) rfl rfl hl.1 rfl (lv_room (Nat.le_of_ble_eq_true rfl)) dX8_numberAt_19 ⟨Nat.le_of_ble_eq_true rfl, Nat.le_of_ble_eq_true rfl⟩) hP hS hA (fun r_11 H locs wr_11 hP hS => ?_)
  refine lv_sipush (v := 255) hx hb dX8_numberAt_22 (by decide) ?_
  refine lv_iand hx hb dX8_numberAt_25 ?_
  refine lv_topi (fun x_12 ex_12 => ?_)
  refine lv_ior hx hb dX8_numberAt_26 ?_
  refine lv_topi (fun x_13 ex_13 => ?_)
  refine lv_istore_n (lv' := [(2, .int x_13), (3, .int 1), (0, .ref (a 1)), (1, .int n1)]) hx hb dX8_numberAt_27 rfl hl (by decide) rfl (fun ls hl => ?_)
  refine lv_iinc (v := 2) (lv' := [(3, .int 2), (2, .int x_13), (0, .ref (a 1)), (1, .int n1)]) hx hb dX8_numberAt_28 hl (k := 1) rfl (by decide) (by decide) rfl (fun ls hl => ?_)
  refine lv_goto (tgt := 4) hx hb dX8_numberAt_31 (by decide) ?_
  refine lv_iload_n hx hb dX8_numberAt_4 rfl (lv_at hl 0 rfl) ?_
  refine lv_iconst (v := 4) hx hb dX8_numberAt_5 (by decide) ?_
  refine lv_icmp_ge (tgt := 34) hx hb dX8_numberAt_6 (by decide) (fun c => absurd c (by decide)) (fun _ => ?_)
  refine lv_iload_n hx hb dX8_numberAt_9 rfl (lv_at hl 1 rfl) ?_
  refine lv_bipush (v := 8) hx hb dX8_numberAt_10 (by decide) ?_
  refine lv_ishl hx hb dX8_numberAt_12 ?_
  refine lv_topi (fun x_14 ex_14 => ?_)
  refine lv_aload_n hx hb dX8_numberAt_13 rfl (lv_at hl 2 rfl) ?_
  refine lv_iload_n hx hb dX8_numberAt_14 rfl (lv_at hl 3 rfl) ?_
  refine lv_iconst (v := 4) hx hb dX8_numberAt_15 (by decide) ?_
  refine lv_imul hx hb dX8_numberAt_16 ?_
  refine lv_topi (fun x_15 ex_15 => ?_)
  refine lv_iload_n hx hb dX8_numberAt_17 rfl (lv_at hl 0 rfl) ?_
  refine lv_iadd hx hb dX8_numberAt_18 ?_
  refine lv_topi (fun x_16 ex_16 => ?_)
  refine eRi (va_runV (As := [.int x_16]) (rest := [.int x_14]) ⟨hx, hb, hml, hown, hts⟩ (c_X8_byteAt l D cI cB cZ cJ tx a tu tb x_16 (lf_X8_numberAt_17 a tu tb n1 htu x_1 ex_1 x_2 ex_2 r_4 x_5 ex_5 x_6 ex_6 x_7 ex_7 x_8 ex_8 x_9 ex_9 r_11 x_12 ex_12 x_13 ex_13 x_14 ex_14 x_15 ex_15 x_16 ex_16) H.size) (zV hts k_1341 v_X8_byteAt ⟨Nat.le_of_ble_eq_true rfl, Nat.le_of_ble_eq_true rfl⟩) (pV (pxS hK hP hD [0, 1] (by decide) rfl) hK hP 0 rfl rfl) rfl rfl hl.1 rfl (lv_room (Nat.le_of_ble_eq_true rfl)) dX8_numberAt_19 ⟨Nat.le_of_ble_eq_true rfl, Nat.le_of_ble_eq_true rfl⟩) hP hS hA (fun r_18 H locs wr_18 hP hS => ?_)
  refine lv_sipush (v := 255) hx hb dX8_numberAt_22 (by decide) ?_
  refine lv_iand hx hb dX8_numberAt_25 ?_
  refine lv_topi (fun x_19 ex_19 => ?_)
  refine lv_ior hx hb dX8_numberAt_26 ?_
  refine lv_topi (fun x_20 ex_20 => ?_)
  refine lv_istore_n (lv' := [(2, .int x_20), (3, .int 2), (0, .ref (a 1)), (1, .int n1)]) hx hb dX8_numberAt_27 rfl hl (by decide) rfl (fun ls hl => ?_)
  refine lv_iinc (v := 3) (lv' := [(3, .int 3), (2, .int x_20), (0, .ref (a 1)), (1, .int n1)]) hx hb dX8_numberAt_28 hl (k := 1) rfl (by decide) (by decide) rfl (fun ls hl => ?_)
  refine lv_goto (tgt := 4) hx hb dX8_numberAt_31 (by decide) ?_
  refine lv_iload_n hx hb dX8_numberAt_4 rfl (lv_at hl 0 rfl) ?_
  refine lv_iconst (v := 4) hx hb dX8_numberAt_5 (by decide) ?_
  refine lv_icmp_ge (tgt := 34) hx hb dX8_numberAt_6 (by decide) (fun c => absurd c (by decide)) (fun _ => ?_)
  refine lv_iload_n hx hb dX8_numberAt_9 rfl (lv_at hl 1 rfl) ?_
  refine lv_bipush (v := 8) hx hb dX8_numberAt_10 (by decide) ?_
  refine lv_ishl hx hb dX8_numberAt_12 ?_
  refine lv_topi (fun x_21 ex_21 => ?_)
  refine lv_aload_n hx hb dX8_numberAt_13 rfl (lv_at hl 2 rfl) ?_
  refine lv_iload_n hx hb dX8_numberAt_14 rfl (lv_at hl 3 rfl) ?_
  refine lv_iconst (v := 4) hx hb dX8_numberAt_15 (by decide) ?_
  refine lv_imul hx hb dX8_numberAt_16 ?_
  refine lv_topi (fun x_22 ex_22 => ?_)
  refine lv_iload_n hx hb dX8_numberAt_17 rfl (lv_at hl 0 rfl) ?_
  refine lv_iadd hx hb dX8_numberAt_18 ?_
  refine lv_topi (fun x_23 ex_23 => ?_)
  refine eRi (va_runV (As := [.int x_23]) (rest := [.int x_21]) ⟨hx, hb, hml, hown, hts⟩ (c_X8_byteAt l D cI cB cZ cJ tx a tu tb x_23 (lf_X8_numberAt_24 a tu tb n1 htu x_1 ex_1 x_2 ex_2 r_4 x_5 ex_5 x_6 ex_6 x_7 ex_7 x_8 ex_8 x_9 ex_9 r_11 x_12 ex_12 x_13 ex_13 x_14 ex_14 x_15 ex_15 x_16 ex_16 r_18 x_19 ex_19 x_20 ex_20 x_21 ex_21 x_22 ex_22 x_23 ex_23) H.size) (zV hts k_1341 v_X8_byteAt ⟨Nat.le_of_ble_eq_true rfl, Nat.le_of_ble_eq_true rfl⟩) (pV (pxS hK hP hD [0, 1] (by decide) rfl) hK hP 0 rfl rfl) rfl rfl hl.1 rfl (lv_room (Nat.le_of_ble_eq_true rfl)) dX8_numberAt_19 ⟨Nat.le_of_ble_eq_true rfl, Nat.le_of_ble_eq_true rfl⟩) hP hS hA (fun r_25 H locs wr_25 hP hS => ?_)
  refine lv_sipush (v := 255) hx hb dX8_numberAt_22 (by decide) ?_
  refine lv_iand hx hb dX8_numberAt_25 ?_
  refine lv_topi (fun x_26 ex_26 => ?_)
  refine lv_ior hx hb dX8_numberAt_26 ?_
  refine lv_topi (fun x_27 ex_27 => ?_)
  refine lv_istore_n (lv' := [(2, .int x_27), (3, .int 3), (0, .ref (a 1)), (1, .int n1)]) hx hb dX8_numberAt_27 rfl hl (by decide) rfl (fun ls hl => ?_)
  refine lv_iinc (v := 4) (lv' := [(3, .int 4), (2, .int x_27), (0, .ref (a 1)), (1, .int n1)]) hx hb dX8_numberAt_28 hl (k := 1) rfl (by decide) (by decide) rfl (fun ls hl => ?_)
  refine lv_goto (tgt := 4) hx hb dX8_numberAt_31 (by decide) ?_
  refine lv_iload_n hx hb dX8_numberAt_4 rfl (lv_at hl 0 rfl) ?_
  refine lv_iconst (v := 4) hx hb dX8_numberAt_5 (by decide) ?_
  refine lv_icmp_ge (tgt := 34) hx hb dX8_numberAt_6 (by decide) (fun _ => ?_) (fun c => absurd c (by decide))
  refine lv_iload_n hx hb dX8_numberAt_34 rfl (lv_at hl 1 rfl) ?_
  exact W.iret (v := x_27) hx hb hr (fun tt9 ht hW => ⟨⟨(x_27 : Int32), (), rfl, trivial, trivial⟩, hS.F ht⟩) hS.2.2 dX8_numberAt_35 hlocks

theorem lf_X7_partingMost_3 (a : Nat → Nat) (y0 : Nat → Int32) (y1 : Nat → Int32) (y2 : Nat → Int32) (j1 : Nat) (bv : Int32) (k4 : Nat) (hj4 : j1 ≤ 6) (hk4 : 6 < j1 + (k4 + 1)) (hbv : bv = -1 ∨ ∃ k : Nat, k < 6 ∧ bv = nI k) (c_1 : 6 ≤ nI j1) : 6 ≤ j1 := by
  exact (nI_leI (a := 6) (b := j1) (by omega) (by omega)).mp c_1
theorem lf_X7_partingMost_4 (a : Nat → Nat) (y0 : Nat → Int32) (y1 : Nat → Int32) (y2 : Nat → Int32) (j1 : Nat) (bv : Int32) (k4 : Nat) (hj4 : j1 ≤ 6) (hk4 : 6 < j1 + (k4 + 1)) (hbv : bv = -1 ∨ ∃ k : Nat, k < 6 ∧ bv = nI k) (c_1 : 6 ≤ nI j1) (n_2 : 6 ≤ j1) : (bv : Int32) = -1 ∨ ∃ k : Nat, k < 6 ∧ (bv : Int32) = nI k := by
  assumption
theorem lf_X7_partingMost_6 (a : Nat → Nat) (y0 : Nat → Int32) (y1 : Nat → Int32) (y2 : Nat → Int32) (j1 : Nat) (bv : Int32) (k4 : Nat) (hj4 : j1 ≤ 6) (hk4 : 6 < j1 + (k4 + 1)) (hbv : bv = -1 ∨ ∃ k : Nat, k < 6 ∧ bv = nI k) (c_1 : ¬ 6 ≤ nI j1) : j1 < 6 := by
  exact Nat.lt_of_not_le (fun q => c_1 ((nI_leI (a := 6) (b := j1) (by omega) (by omega)).mpr q))
theorem lf_X7_partingMost_7 (a : Nat → Nat) (y0 : Nat → Int32) (y1 : Nat → Int32) (y2 : Nat → Int32) (j1 : Nat) (bv : Int32) (k4 : Nat) (hj4 : j1 ≤ 6) (hk4 : 6 < j1 + (k4 + 1)) (hbv : bv = -1 ∨ ∃ k : Nat, k < 6 ∧ bv = nI k) (c_1 : ¬ 6 ≤ nI j1) (n_5 : j1 < 6) : vp_in (nI j1) 6 := by
  first | exact vp_in_nI (by omega) (by decide) | (unfold vp_in; decide)
theorem lf_X7_partingMost_10 (a : Nat → Nat) (y0 : Nat → Int32) (y1 : Nat → Int32) (y2 : Nat → Int32) (j1 : Nat) (bv : Int32) (k4 : Nat) (hj4 : j1 ≤ 6) (hk4 : 6 < j1 + (k4 + 1)) (hbv : bv = -1 ∨ ∃ k : Nat, k < 6 ∧ bv = nI k) (c_1 : ¬ 6 ≤ nI j1) (n_5 : j1 < 6) (x_8 : Int32) (c_9 : 0 ≤ x_8) : bv = -1 ∨ ∃ k : Nat, k < 6 ∧ bv = nI k := by
  first | assumption | exact Or.inl rfl | exact Or.inr ⟨_, by omega, rfl⟩
theorem lf_X7_partingMost_12 (a : Nat → Nat) (y0 : Nat → Int32) (y1 : Nat → Int32) (y2 : Nat → Int32) (j1 : Nat) (bv : Int32) (k4 : Nat) (hj4 : j1 ≤ 6) (hk4 : 6 < j1 + (k4 + 1)) (hbv : bv = -1 ∨ ∃ k : Nat, k < 6 ∧ bv = nI k) (c_1 : ¬ 6 ≤ nI j1) (n_5 : j1 < 6) (x_8 : Int32) (c_9 : ¬ 0 ≤ x_8) (c_11 : bv < 0) : (nI j1) = -1 ∨ ∃ k : Nat, k < 6 ∧ (nI j1) = nI k := by
  first | assumption | exact Or.inl rfl | exact Or.inr ⟨_, by omega, rfl⟩
theorem lf_X7_partingMost_13 (a : Nat → Nat) (y0 : Nat → Int32) (y1 : Nat → Int32) (y2 : Nat → Int32) (j1 : Nat) (bv : Int32) (k4 : Nat) (hj4 : j1 ≤ 6) (hk4 : 6 < j1 + (k4 + 1)) (hbv : bv = -1 ∨ ∃ k : Nat, k < 6 ∧ bv = nI k) (c_1 : ¬ 6 ≤ nI j1) (n_5 : j1 < 6) (x_8 : Int32) (c_9 : ¬ 0 ≤ x_8) (c_11 : ¬ bv < 0) (kq : Nat) (hkq : kq < 6) (ekq : bv = nI kq) : j1 < 6 := by
  first | assumption | omega | decide
theorem lf_X7_partingMost_15 (a : Nat → Nat) (y0 : Nat → Int32) (y1 : Nat → Int32) (y2 : Nat → Int32) (j1 : Nat) (bv : Int32) (k4 : Nat) (hj4 : j1 ≤ 6) (hk4 : 6 < j1 + (k4 + 1)) (hbv : bv = -1 ∨ ∃ k : Nat, k < 6 ∧ bv = nI k) (c_1 : ¬ 6 ≤ nI j1) (n_5 : j1 < 6) (x_8 : Int32) (c_9 : ¬ 0 ≤ x_8) (c_11 : ¬ bv < 0) (kq : Nat) (hkq : kq < 6) (ekq : bv = nI kq) (r_14 : Int32) : kq < 6 := by
  first | assumption | omega | decide
theorem lf_X7_partingMost_18 (a : Nat → Nat) (y0 : Nat → Int32) (y1 : Nat → Int32) (y2 : Nat → Int32) (j1 : Nat) (bv : Int32) (k4 : Nat) (hj4 : j1 ≤ 6) (hk4 : 6 < j1 + (k4 + 1)) (hbv : bv = -1 ∨ ∃ k : Nat, k < 6 ∧ bv = nI k) (c_1 : ¬ 6 ≤ nI j1) (n_5 : j1 < 6) (x_8 : Int32) (c_9 : ¬ 0 ≤ x_8) (c_11 : ¬ bv < 0) (kq : Nat) (hkq : kq < 6) (ekq : bv = nI kq) (r_14 : Int32) (r_16 : Int32) (c_17 : r_14 ≤ r_16) : (nI kq) = -1 ∨ ∃ k : Nat, k < 6 ∧ (nI kq) = nI k := by
  first | assumption | exact Or.inl rfl | exact Or.inr ⟨_, by omega, rfl⟩
theorem lf_X7_partingMost_19 (a : Nat → Nat) (y0 : Nat → Int32) (y1 : Nat → Int32) (y2 : Nat → Int32) (j1 : Nat) (bv : Int32) (k4 : Nat) (hj4 : j1 ≤ 6) (hk4 : 6 < j1 + (k4 + 1)) (hbv : bv = -1 ∨ ∃ k : Nat, k < 6 ∧ bv = nI k) (c_1 : ¬ 6 ≤ nI j1) (n_5 : j1 < 6) (x_8 : Int32) (c_9 : ¬ 0 ≤ x_8) (c_11 : ¬ bv < 0) (kq : Nat) (hkq : kq < 6) (ekq : bv = nI kq) (r_14 : Int32) (r_16 : Int32) (c_17 : ¬ r_14 ≤ r_16) : (nI j1) = -1 ∨ ∃ k : Nat, k < 6 ∧ (nI j1) = nI k := by
  first | assumption | exact Or.inl rfl | exact Or.inr ⟨_, by omega, rfl⟩
theorem lf_X7_partingMost_20 (a : Nat → Nat) (y0 : Nat → Int32) (y1 : Nat → Int32) (y2 : Nat → Int32) : (((-1)) : Int32) = -1 ∨ ∃ k : Nat, k < 6 ∧ (((-1)) : Int32) = nI k := by
  first | assumption | exact Or.inl rfl | exact Or.inr ⟨_, by omega, rfl⟩
set_option maxHeartbeats 4000000 in
set_option maxRecDepth 100000 in
theorem c_X7_partingMost (l : Launch) (D : va_G) (cI cB cZ cJ : ClassId) (tx : List (ClassId × FieldType)) (a : Nat → Nat) (y0 : Nat → Int32) (y1 : Nat → Int32) (y2 : Nat → Int32) : RdI l D cI cB cZ cJ tx yX7_partingMost cX7_partingMost 3 (some .int) 3 [.ref (a 12)] [(a 12, .inr (7, [.ref (a 48), .ref (a 49), .ref (a 50)])), (a 48, .inl (cI, 36, .inl y0)), (a 49, .inl (cZ, 6, .inl y1)), (a 50, .inl (cI, 6, .inl y2))] (fun r => r = -1 ∨ ∃ k : Nat, k < 6 ∧ r = nI k) := by
  refine rdi_of2 (by decide) (Nat.le_of_ble_eq_true rfl) ?_
  intro p e s m below meth c A ls H locs hC hK hP hD hA hS hl
  obtain ⟨hx, hb, hr, hml, hown, hts, hlocks, hin⟩ := hC
  have hown : s.vm.findClass RX7 = some m.cls := hown
  have hl : lv_has ls 3 [(0, .ref (a 12))] := hl
  refine lv_iconst (v := (-1)) hx hb dX7_partingMost_0 (by decide) ?_
  refine lv_istore_n (lv' := [(1, .int (-1)), (0, .ref (a 12))]) hx hb dX7_partingMost_1 rfl hl (by decide) rfl (fun ls hl => ?_)
  refine lv_iconst (v := 0) hx hb dX7_partingMost_2 (by decide) ?_
  refine lv_istore_n (lv' := [(2, .int 0), (1, .int (-1)), (0, .ref (a 12))]) hx hb dX7_partingMost_3 rfl hl (by decide) rfl (fun ls hl => ?_)
  have lp4 : ∀ (k4 : Nat) (j1 : Nat) (bv : Int32) (H : Heap) (locs : List Loc) (ls : Array Slot), j1 ≤ 6 → 6 < j1 + k4 → (bv = -1 ∨ ∃ k : Nat, k < 6 ∧ bv = nI k) → va_P D vwCl [(a 12, .inr (7, [.ref (a 48), .ref (a 49), .ref (a 50)])), (a 48, .inl (cI, 36, .inl y0)), (a 49, .inl (cZ, 6, .inl y1)), (a 50, .inl (cI, 6, .inl y2))] H → va_S A s.heap H locs → lv_has ls 3 [(2, .int (nI j1)), (1, .int bv), (0, .ref (a 12))] → W p l e (rmX 3 0 0) s m ([.ref (a 12)] : List Value).toArray below meth c H locs 0 0 (MQ below (va_Qi (fun r (_ : Unit) => (fun r => r = -1 ∨ ∃ k : Nat, k < 6 ∧ r = nI k) r) (fun _ _ => True) A) ([.ref (a 12)] : List Value).toArray s 0 0 A) (F0 m 4 ls []) := by
    intro k4
    induction k4 with
    | zero =>
      intro j1 bv H locs ls hj4 hk4 hbv hP hS hl
      exact absurd hk4 (by omega)
    | succ k4 ih4 =>
      intro j1 bv H locs ls hj4 hk4 hbv hP hS hl
      refine lv_iload_n hx hb dX7_partingMost_4 rfl (lv_at hl 0 rfl) ?_
      refine lv_bipush (v := 6) hx hb dX7_partingMost_5 (by decide) ?_
      refine lv_icmp_ge (tgt := 44) hx hb dX7_partingMost_7 (by decide) (fun c_1 => ?_) (fun c_1 => ?_)
      · have n_2 : 6 ≤ j1 := (lf_X7_partingMost_3 a y0 y1 y2 j1 bv k4 hj4 hk4 hbv c_1)
        refine lv_iload_n hx hb dX7_partingMost_44 rfl (lv_at hl 1 rfl) ?_
        exact W.iret (v := bv) hx hb hr (fun tt9 ht hW => ⟨⟨(bv : Int32), (), rfl, (lf_X7_partingMost_4 a y0 y1 y2 j1 bv k4 hj4 hk4 hbv c_1 n_2), trivial⟩, hS.F ht⟩) hS.2.2 dX7_partingMost_45 hlocks
      · have n_5 : j1 < 6 := (lf_X7_partingMost_6 a y0 y1 y2 j1 bv k4 hj4 hk4 hbv c_1)
        refine lv_aload_n hx hb dX7_partingMost_10 rfl (lv_at hl 2 rfl) ?_
        refine va_get (D := D) (ci := 7) (v := .ref (a 50)) (C := RX7) (T := TX7) (N := 3) hx hb hts inT_X7 hown hK.1 hP 0 rfl rfl 2 (by decide) (hts _ k_474) (fun _ h9 => h9) rfl dX7_partingMost_11 ?_
        refine lv_iload_n hx hb dX7_partingMost_14 rfl (lv_at hl 0 rfl) ?_
        refine ld_i hx hb hK hP 3 rfl (lf_X7_partingMost_7 a y0 y1 y2 j1 bv k4 hj4 hk4 hbv c_1 n_5) dX7_partingMost_15 (fun x_8 => ?_)
        refine lv_if_ge (tgt := 38) hx hb dX7_partingMost_16 (by decide) (fun c_9 => ?_) (fun c_9 => ?_)
        · refine lv_iinc (v := nI (j1 + 1)) (lv' := [(2, .int (nI (j1 + 1))), (1, .int bv), (0, .ref (a 12))]) hx hb dX7_partingMost_38 hl (k := 0) rfl (nI_1 j1) (by decide) rfl (fun ls hl => ?_)
          refine lv_goto (tgt := 4) hx hb dX7_partingMost_41 (by decide) ?_
          exact ih4 (j1 + 1) bv H locs ls (by omega) (by omega) (lf_X7_partingMost_10 a y0 y1 y2 j1 bv k4 hj4 hk4 hbv c_1 n_5 x_8 c_9) (hP.sub [0, 1, 2, 3] rfl)  hS (lv_sub hl [0, 1, 2] rfl)
        · refine lv_iload_n hx hb dX7_partingMost_19 rfl (lv_at hl 1 rfl) ?_
          refine lv_if_lt (tgt := 36) hx hb dX7_partingMost_20 (by decide) (fun c_11 => ?_) (fun c_11 => ?_)
          · refine lv_iload_n hx hb dX7_partingMost_36 rfl (lv_at hl 0 rfl) ?_
            refine lv_istore_n (lv' := [(1, .int (nI j1)), (2, .int (nI j1)), (0, .ref (a 12))]) hx hb dX7_partingMost_37 rfl hl (by decide) rfl (fun ls hl => ?_)
            refine lv_iinc (v := nI (j1 + 1)) (lv' := [(2, .int (nI (j1 + 1))), (1, .int (nI j1)), (0, .ref (a 12))]) hx hb dX7_partingMost_38 hl (k := 1) rfl (nI_1 j1) (by decide) rfl (fun ls hl => ?_)
            refine lv_goto (tgt := 4) hx hb dX7_partingMost_41 (by decide) ?_
            exact ih4 (j1 + 1) (nI j1) H locs ls (by omega) (by omega) (lf_X7_partingMost_12 a y0 y1 y2 j1 bv k4 hj4 hk4 hbv c_1 n_5 x_8 c_9 c_11) (hP.sub [0, 1, 2, 3] rfl)  hS (lv_sub hl [0, 1, 2] rfl)
          · obtain ⟨kq, hkq, ekq⟩ := best_of hbv c_11
            subst ekq
            refine lv_aload_n hx hb dX7_partingMost_23 rfl (lv_at hl 2 rfl) ?_
            refine lv_iload_n hx hb dX7_partingMost_24 rfl (lv_at hl 0 rfl) ?_
            refine eRi (va_runV (As := [.int (nI j1)]) (rest := []) ⟨hx, hb, hml, hown, hts⟩ (c_X7_parted l D cI cB cZ cJ tx a y0 y1 y2 j1 (lf_X7_partingMost_13 a y0 y1 y2 j1 (nI kq) k4 hj4 hk4 hbv c_1 n_5 x_8 c_9 c_11 kq hkq rfl) H.size) (zV hts k_1226 v_X7_parted ⟨Nat.le_of_ble_eq_true rfl, Nat.le_of_ble_eq_true rfl⟩) (pV (pxS hK hP hD [0, 1, 2, 3] (by decide) rfl) hK hP 0 rfl rfl) rfl rfl hl.1 rfl (lv_room (Nat.le_of_ble_eq_true rfl)) dX7_partingMost_25 ⟨Nat.le_of_ble_eq_true rfl, Nat.le_of_ble_eq_true rfl⟩) hP hS hA (fun r_14 H locs wr_14 hP hS => ?_)
            refine lv_aload_n hx hb dX7_partingMost_28 rfl (lv_at hl 2 rfl) ?_
            refine lv_iload_n hx hb dX7_partingMost_29 rfl (lv_at hl 1 rfl) ?_
            refine eRi (va_runV (As := [.int (nI kq)]) (rest := [.int r_14]) ⟨hx, hb, hml, hown, hts⟩ (c_X7_parted l D cI cB cZ cJ tx a y0 y1 y2 kq (lf_X7_partingMost_15 a y0 y1 y2 j1 (nI kq) k4 hj4 hk4 hbv c_1 n_5 x_8 c_9 c_11 kq hkq rfl r_14) H.size) (zV hts k_1226 v_X7_parted ⟨Nat.le_of_ble_eq_true rfl, Nat.le_of_ble_eq_true rfl⟩) (pV (pxS hK hP hD [0, 1, 2, 3] (by decide) rfl) hK hP 0 rfl rfl) rfl rfl hl.1 rfl (lv_room (Nat.le_of_ble_eq_true rfl)) dX7_partingMost_30 ⟨Nat.le_of_ble_eq_true rfl, Nat.le_of_ble_eq_true rfl⟩) hP hS hA (fun r_16 H locs wr_16 hP hS => ?_)
            refine lv_icmp_le (tgt := 38) hx hb dX7_partingMost_33 (by decide) (fun c_17 => ?_) (fun c_17 => ?_)
            · refine lv_iinc (v := nI (j1 + 1)) (lv' := [(2, .int (nI (j1 + 1))), (1, .int (nI kq)), (0, .ref (a 12))]) hx hb dX7_partingMost_38 hl (k := 0) rfl (nI_1 j1) (by decide) rfl (fun ls hl => ?_)
              refine lv_goto (tgt := 4) hx hb dX7_partingMost_41 (by decide) ?_
              exact ih4 (j1 + 1) (nI kq) H locs ls (by omega) (by omega) (lf_X7_partingMost_18 a y0 y1 y2 j1 (nI kq) k4 hj4 hk4 hbv c_1 n_5 x_8 c_9 c_11 kq hkq rfl r_14 r_16 c_17) (hP.sub [0, 1, 2, 3] rfl)  hS (lv_sub hl [0, 1, 2] rfl)
            · refine lv_iload_n hx hb dX7_partingMost_36 rfl (lv_at hl 0 rfl) ?_
              refine lv_istore_n (lv' := [(1, .int (nI j1)), (2, .int (nI j1)), (0, .ref (a 12))]) hx hb dX7_partingMost_37 rfl hl (by decide) rfl (fun ls hl => ?_)
              refine lv_iinc (v := nI (j1 + 1)) (lv' := [(2, .int (nI (j1 + 1))), (1, .int (nI j1)), (0, .ref (a 12))]) hx hb dX7_partingMost_38 hl (k := 1) rfl (nI_1 j1) (by decide) rfl (fun ls hl => ?_)
              refine lv_goto (tgt := 4) hx hb dX7_partingMost_41 (by decide) ?_
              exact ih4 (j1 + 1) (nI j1) H locs ls (by omega) (by omega) (lf_X7_partingMost_19 a y0 y1 y2 j1 (nI kq) k4 hj4 hk4 hbv c_1 n_5 x_8 c_9 c_11 kq hkq rfl r_14 r_16 c_17) (hP.sub [0, 1, 2, 3] rfl)  hS (lv_sub hl [0, 1, 2] rfl)
  exact lp4 (6 + 1) 0 (-1) H locs ls (by omega) (by omega) (lf_X7_partingMost_20 a y0 y1 y2) (hP.sub [0, 1, 2, 3] rfl)  hS (lv_sub hl [0, 1, 2] rfl)

theorem lf_X0_areTwo_3 (a : Nat → Nat) (dm : Nat) (n1 : Int32) (n2 : Int32) (hdm : dm ≤ 4) (c_2 : ¬ ((0 : Int32) ≤ n1 ∧ n1 ≤ nI dm - 1)) : ((0 : Int32) = 0) ∨ (∃ f g : Nat, f < dm ∧ g < dm ∧ n1 = nI f ∧ n2 = nI g ∧ (0 : Int32) = 1) := by
  first | exact Or.inl rfl | exact Or.inr ⟨tn1, tn2, tn1a, tn2a, tn1e, tn2e, rfl⟩
theorem lf_X0_areTwo_4 (a : Nat → Nat) (dm : Nat) (n1 : Int32) (n2 : Int32) (hdm : dm ≤ 4) (c_2 : (0 : Int32) ≤ n1 ∧ n1 ≤ nI dm - 1) : dm < 2 ^ 31 := by
  omega
theorem lf_X0_areTwo_7 (a : Nat → Nat) (dm : Nat) (n1 : Int32) (n2 : Int32) (hdm : dm ≤ 4) (c_2 : (0 : Int32) ≤ n1 ∧ n1 ≤ nI dm - 1) (tn1 : Nat) (tn1a : tn1 < dm) (tn1e : n1 = nI tn1) (c_6 : ¬ ((0 : Int32) ≤ n2 ∧ n2 ≤ nI dm - 1)) : ((0 : Int32) = 0) ∨ (∃ f g : Nat, f < dm ∧ g < dm ∧ n1 = nI f ∧ n2 = nI g ∧ (0 : Int32) = 1) := by
  first | exact Or.inl rfl | exact Or.inr ⟨tn1, tn2, tn1a, tn2a, tn1e, tn2e, rfl⟩
theorem lf_X0_areTwo_8 (a : Nat → Nat) (dm : Nat) (n1 : Int32) (n2 : Int32) (hdm : dm ≤ 4) (c_2 : (0 : Int32) ≤ n1 ∧ n1 ≤ nI dm - 1) (tn1 : Nat) (tn1a : tn1 < dm) (tn1e : n1 = nI tn1) (c_6 : (0 : Int32) ≤ n2 ∧ n2 ≤ nI dm - 1) : dm < 2 ^ 31 := by
  omega
theorem lf_X0_areTwo_11 (a : Nat → Nat) (dm : Nat) (n1 : Int32) (n2 : Int32) (hdm : dm ≤ 4) (c_2 : (0 : Int32) ≤ n1 ∧ n1 ≤ nI dm - 1) (tn1 : Nat) (tn1a : tn1 < dm) (tn1e : n1 = nI tn1) (c_6 : (0 : Int32) ≤ n2 ∧ n2 ≤ nI dm - 1) (tn2 : Nat) (tn2a : tn2 < dm) (tn2e : n2 = nI tn2) (c_9 : nI tn1 = nI tn2) : tn1 = tn2 := by
  exact (nI_eq (a := tn1) (b := tn2) (by omega) (by omega)).mp c_9
theorem lf_X0_areTwo_12 (a : Nat → Nat) (dm : Nat) (n1 : Int32) (n2 : Int32) (hdm : dm ≤ 4) (c_2 : (0 : Int32) ≤ n1 ∧ n1 ≤ nI dm - 1) (tn1 : Nat) (tn1a : tn1 < dm) (tn1e : n1 = nI tn1) (c_6 : (0 : Int32) ≤ n2 ∧ n2 ≤ nI dm - 1) (tn2 : Nat) (tn2a : tn2 < dm) (tn2e : n2 = nI tn2) (c_9 : nI tn1 = nI tn2) (n_10 : tn1 = tn2) : ((0 : Int32) = 0) ∨ (∃ f g : Nat, f < dm ∧ g < dm ∧ n1 = nI f ∧ n2 = nI g ∧ (0 : Int32) = 1) := by
  first | exact Or.inl rfl | exact Or.inr ⟨tn1, tn2, tn1a, tn2a, tn1e, tn2e, rfl⟩
theorem lf_X0_areTwo_14 (a : Nat → Nat) (dm : Nat) (n1 : Int32) (n2 : Int32) (hdm : dm ≤ 4) (c_2 : (0 : Int32) ≤ n1 ∧ n1 ≤ nI dm - 1) (tn1 : Nat) (tn1a : tn1 < dm) (tn1e : n1 = nI tn1) (c_6 : (0 : Int32) ≤ n2 ∧ n2 ≤ nI dm - 1) (tn2 : Nat) (tn2a : tn2 < dm) (tn2e : n2 = nI tn2) (c_9 : ¬ nI tn1 = nI tn2) : tn1 ≠ tn2 := by
  exact fun q => c_9 ((nI_eq (a := tn1) (b := tn2) (by omega) (by omega)).mpr q)
theorem lf_X0_areTwo_15 (a : Nat → Nat) (dm : Nat) (n1 : Int32) (n2 : Int32) (hdm : dm ≤ 4) (c_2 : (0 : Int32) ≤ n1 ∧ n1 ≤ nI dm - 1) (tn1 : Nat) (tn1a : tn1 < dm) (tn1e : n1 = nI tn1) (c_6 : (0 : Int32) ≤ n2 ∧ n2 ≤ nI dm - 1) (tn2 : Nat) (tn2a : tn2 < dm) (tn2e : n2 = nI tn2) (c_9 : ¬ nI tn1 = nI tn2) (n_13 : tn1 ≠ tn2) : ((1 : Int32) = 0) ∨ (∃ f g : Nat, f < dm ∧ g < dm ∧ n1 = nI f ∧ n2 = nI g ∧ (1 : Int32) = 1) := by
  first | exact Or.inl rfl | exact Or.inr ⟨tn1, tn2, tn1a, tn2a, tn1e, tn2e, rfl⟩
set_option maxHeartbeats 4000000 in
set_option maxRecDepth 100000 in
theorem c_X0_areTwo (l : Launch) (D : va_G) (cI cB cZ cJ : ClassId) (tx : List (ClassId × FieldType)) (a : Nat → Nat) (dm : Nat) (n1 : Int32) (n2 : Int32) (hdm : dm ≤ 4) : RdI l D cI cB cZ cJ tx yX0_areTwo cX0_areTwo 3 (some .boolean) 2 [.ref (a 6), .int n1, .int n2] [(a 6, .inr (0, [.ref (a 5), .ref (a 25), .ref (a 26), .ref (a 27), .ref (a 28), .ref (a 29), .int (nI dm)]))] (fun r => (r = 0) ∨ (∃ f g : Nat, f < dm ∧ g < dm ∧ n1 = nI f ∧ n2 = nI g ∧ r = 1)) := by
  refine rdi_of2 (by decide) (Nat.le_of_ble_eq_true rfl) ?_
  intro p e s m below meth c A ls H locs hC hK hP hD hA hS hl
  obtain ⟨hx, hb, hr, hml, hown, hts, hlocks, hin⟩ := hC
  have hown : s.vm.findClass RX0 = some m.cls := hown
  have hl : lv_has ls 3 [(0, .ref (a 6)), (1, .int n1), (2, .int n2)] := hl
  refine lv_aload_n hx hb dX0_areTwo_0 rfl (lv_at hl 0 rfl) ?_
  refine lv_iload_n hx hb dX0_areTwo_1 rfl (lv_at hl 1 rfl) ?_
  refine eRi (va_runV (As := [.int n1]) (rest := []) ⟨hx, hb, hml, hown, hts⟩ (c_X0_has l D cI cB cZ cJ tx a dm n1 H.size) (zV hts k_928 v_X0_has ⟨Nat.le_of_ble_eq_true rfl, Nat.le_of_ble_eq_true rfl⟩) (pV (px1 hK hP 0 rfl) hK hP 0 rfl rfl) rfl rfl hl.1 rfl (lv_room (Nat.le_of_ble_eq_true rfl)) dX0_areTwo_2 ⟨Nat.le_of_ble_eq_true rfl, Nat.le_of_ble_eq_true rfl⟩) hP hS hA (fun r_1 H locs wr_1 hP hS => ?_)
  subst wr_1
  refine lv_bi_eq (tgt := 25) hx hb dX0_areTwo_5 (by decide) (fun c_2 => ?_) (fun c_2 => ?_)
  · refine lv_iconst (v := 0) hx hb dX0_areTwo_25 (by decide) ?_
    exact W.zret (v := 0) hx hb hr (by decide) (fun tt9 ht hW => ⟨⟨(0 : Int32), (), rfl, (lf_X0_areTwo_3 a dm n1 n2 hdm c_2), trivial⟩, hS.F ht⟩) hS.2.2 dX0_areTwo_26 hlocks
  · obtain ⟨tn1, tn1a, tn1e⟩ := of_within (lf_X0_areTwo_4 a dm n1 n2 hdm c_2) c_2
    subst tn1e
    refine lv_aload_n hx hb dX0_areTwo_8 rfl (lv_at hl 0 rfl) ?_
    refine lv_iload_n hx hb dX0_areTwo_9 rfl (lv_at hl 2 rfl) ?_
    refine eRi (va_runV (As := [.int n2]) (rest := []) ⟨hx, hb, hml, hown, hts⟩ (c_X0_has l D cI cB cZ cJ tx a dm n2 H.size) (zV hts k_928 v_X0_has ⟨Nat.le_of_ble_eq_true rfl, Nat.le_of_ble_eq_true rfl⟩) (pV (px1 hK hP 0 rfl) hK hP 0 rfl rfl) rfl rfl hl.1 rfl (lv_room (Nat.le_of_ble_eq_true rfl)) dX0_areTwo_10 ⟨Nat.le_of_ble_eq_true rfl, Nat.le_of_ble_eq_true rfl⟩) hP hS hA (fun r_5 H locs wr_5 hP hS => ?_)
    subst wr_5
    refine lv_bi_eq (tgt := 25) hx hb dX0_areTwo_13 (by decide) (fun c_6 => ?_) (fun c_6 => ?_)
    · refine lv_iconst (v := 0) hx hb dX0_areTwo_25 (by decide) ?_
      exact W.zret (v := 0) hx hb hr (by decide) (fun tt9 ht hW => ⟨⟨(0 : Int32), (), rfl, (lf_X0_areTwo_7 a dm (nI tn1) n2 hdm c_2 tn1 tn1a rfl c_6), trivial⟩, hS.F ht⟩) hS.2.2 dX0_areTwo_26 hlocks
    · obtain ⟨tn2, tn2a, tn2e⟩ := of_within (lf_X0_areTwo_8 a dm (nI tn1) n2 hdm c_2 tn1 tn1a rfl c_6) c_6
      subst tn2e
      refine lv_iload_n hx hb dX0_areTwo_16 rfl (lv_at hl 1 rfl) ?_
      refine lv_iload_n hx hb dX0_areTwo_17 rfl (lv_at hl 2 rfl) ?_
      refine lv_icmp_eq (tgt := 25) hx hb dX0_areTwo_18 (by decide) (fun c_9 => ?_) (fun c_9 => ?_)
      · have n_10 : tn1 = tn2 := (lf_X0_areTwo_11 a dm (nI tn1) (nI tn2) hdm c_2 tn1 tn1a rfl c_6 tn2 tn2a rfl c_9)
        refine lv_iconst (v := 0) hx hb dX0_areTwo_25 (by decide) ?_
        exact W.zret (v := 0) hx hb hr (by decide) (fun tt9 ht hW => ⟨⟨(0 : Int32), (), rfl, (lf_X0_areTwo_12 a dm (nI tn1) (nI tn2) hdm c_2 tn1 tn1a rfl c_6 tn2 tn2a rfl c_9 n_10), trivial⟩, hS.F ht⟩) hS.2.2 dX0_areTwo_26 hlocks
      · have n_13 : tn1 ≠ tn2 := (lf_X0_areTwo_14 a dm (nI tn1) (nI tn2) hdm c_2 tn1 tn1a rfl c_6 tn2 tn2a rfl c_9)
        refine lv_iconst (v := 1) hx hb dX0_areTwo_21 (by decide) ?_
        refine lv_goto (tgt := 26) hx hb dX0_areTwo_22 (by decide) ?_
        exact W.zret (v := 1) hx hb hr (by decide) (fun tt9 ht hW => ⟨⟨(1 : Int32), (), rfl, (lf_X0_areTwo_15 a dm (nI tn1) (nI tn2) hdm c_2 tn1 tn1a rfl c_6 tn2 tn2a rfl c_9 n_13), trivial⟩, hS.F ht⟩) hS.2.2 dX0_areTwo_26 hlocks

set_option maxHeartbeats 4000000 in
set_option maxRecDepth 100000 in
theorem c_X11_pitch (l : Launch) (D : va_G) (cI cB cZ cJ : ClassId) (tx : List (ClassId × FieldType)) (a : Nat → Nat) (ap : Int32) (n1 : Int32) : WrI l D cI cB cZ cJ tx yX11_pitch cX11_pitch 2 (some .boolean) 1 0 0 [.ref (a 0), .int n1] [(a 0, .inr (11, [.ref (a 1), .ref (a 2), .ref (a 3), .ref (a 4), .ref (a 5), .ref (a 6), .ref (a 7), .ref (a 8), .ref (a 9), .ref (a 10), .ref (a 11), .ref (a 12), .int ap]))] (fun (r : Int32) (v : (Int32)) => True) (fun v => [(a 0, .inr (11, [.ref (a 1), .ref (a 2), .ref (a 3), .ref (a 4), .ref (a 5), .ref (a 6), .ref (a 7), .ref (a 8), .ref (a 9), .ref (a 10), .ref (a 11), .ref (a 12), .int v]))]) := by
  refine wri_of2 (by decide) (Nat.le_of_ble_eq_true rfl) ?_
  intro p e s m below meth c A ls H locs hC hK hP hD hA hS hl
  obtain ⟨hx, hb, hr, hml, hown, hts, hlocks, hin⟩ := hC
  have hown : s.vm.findClass RX11 = some m.cls := hown
  have hl : lv_has ls 2 [(0, .ref (a 0)), (1, .int n1)] := hl
  refine lv_iload_n hx hb dX11_pitch_0 rfl (lv_at hl 1 rfl) ?_
  refine lv_iconst (v := 1) hx hb dX11_pitch_1 (by decide) ?_
  refine lv_sipush (v := 1000) hx hb dX11_pitch_2 (by decide) ?_
  refine eRi (va_runS (As := [.int n1, .int 1, .int 1000]) (rest := []) ⟨hx, hb, hml, hown, hts⟩ (c_X11_within l D cI cB cZ cJ tx n1 1 1000 H.size) (zS hts k_527 v_X11_within ⟨Nat.le_of_ble_eq_true rfl, Nat.le_of_ble_eq_true rfl⟩) (px0 hK) rfl rfl hl.1 rfl (lv_room (Nat.le_of_ble_eq_true rfl)) dX11_pitch_5 ⟨Nat.le_of_ble_eq_true rfl, Nat.le_of_ble_eq_true rfl⟩) hP hS hA (fun r_1 H locs wr_1 hP hS => ?_)
  subst wr_1
  refine lv_bi_ne (tgt := 13) hx hb dX11_pitch_8 (by decide) (fun c_2 => ?_) (fun c_2 => ?_)
  · obtain ⟨tn1, tn1a, tn1b, tn1e⟩ := of_rng 1 1000 rfl rfl c_2
    subst tn1e
    refine lv_aload_n hx hb dX11_pitch_13 rfl (lv_at hl 0 rfl) ?_
    refine lv_iload_n hx hb dX11_pitch_14 rfl (lv_at hl 1 rfl) ?_
    refine va_put (D := D) (ci := 11) (v := .int (nI tn1)) (ty := .int) (C := RX11) (T := TX11) (N := 13) hx hb hts inT_X11 tyX11 tyX11_ok nmX11 hown hK.1 hP hD hS 0 rfl rfl 12 (by decide) (hts _ k_495) (fun _ h9 => h9) rfl (by decide +kernel) rfl rfl (Nat.le_of_ble_eq_true rfl) dX11_pitch_15 (fun H locs hP hD hS => ?_)
    have hP : va_P D vwCl [(a 0, .inr (11, [.ref (a 1), .ref (a 2), .ref (a 3), .ref (a 4), .ref (a 5), .ref (a 6), .ref (a 7), .ref (a 8), .ref (a 9), .ref (a 10), .ref (a 11), .ref (a 12), .int (nI tn1)]))] H := hP
    have hD : va_D A [(a 0, .inr (11, [.ref (a 1), .ref (a 2), .ref (a 3), .ref (a 4), .ref (a 5), .ref (a 6), .ref (a 7), .ref (a 8), .ref (a 9), .ref (a 10), .ref (a 11), .ref (a 12), .int (nI tn1)]))] := hD
    refine lv_iconst (v := 1) hx hb dX11_pitch_18 (by decide) ?_
    exact W.zret (v := 1) hx hb hr (by decide) (fun tt9 ht hW => ⟨⟨(1 : Int32), ((nI tn1 : Int32)), rfl, trivial, ⟨by rw [ht]; exact hP, hD⟩⟩, hS.F ht⟩) hS.2.2 dX11_pitch_19 hlocks
  · refine lv_iconst (v := 0) hx hb dX11_pitch_11 (by decide) ?_
    exact W.zret (v := 0) hx hb hr (by decide) (fun tt9 ht hW => ⟨⟨(0 : Int32), ((ap : Int32)), rfl, trivial, ⟨by rw [ht]; exact hP, hD⟩⟩, hS.F ht⟩) hS.2.2 dX11_pitch_12 hlocks

set_option maxHeartbeats 4000000 in
set_option maxRecDepth 100000 in
theorem c_X11_seed (l : Launch) (D : va_G) (cI cB cZ cJ : ClassId) (tx : List (ClassId × FieldType)) (a : Nat → Nat) (ap : Int32) (sn : Nat) (sk : Nat) (scu : Int32) (sch : Int32) (n1 : Int32) (hsn : sn ≤ 24) (hsk : sk ≤ 8) : WrI l D cI cB cZ cJ tx yX11_seed cX11_seed 2 (some .boolean) 1 0 0 [.ref (a 0), .int n1] [(a 0, .inr (11, [.ref (a 1), .ref (a 2), .ref (a 3), .ref (a 4), .ref (a 5), .ref (a 6), .ref (a 7), .ref (a 8), .ref (a 9), .ref (a 10), .ref (a 11), .ref (a 12), .int ap])), (a 5, .inr (4, [.ref (a 18), .ref (a 19), .ref (a 20), .ref (a 21), .ref (a 22), .ref (a 23), .ref (a 24), .int (nI sn), .int (nI sk), .int scu, .int sch]))] (fun (r : Int32) (v : (Int32)) => True) (fun v => [(a 0, .inr (11, [.ref (a 1), .ref (a 2), .ref (a 3), .ref (a 4), .ref (a 5), .ref (a 6), .ref (a 7), .ref (a 8), .ref (a 9), .ref (a 10), .ref (a 11), .ref (a 12), .int ap])), (a 5, .inr (4, [.ref (a 18), .ref (a 19), .ref (a 20), .ref (a 21), .ref (a 22), .ref (a 23), .ref (a 24), .int (nI sn), .int (nI sk), .int scu, .int v]))]) := by
  refine wri_of2 (by decide) (Nat.le_of_ble_eq_true rfl) ?_
  intro p e s m below meth c A ls H locs hC hK hP hD hA hS hl
  obtain ⟨hx, hb, hr, hml, hown, hts, hlocks, hin⟩ := hC
  have hown : s.vm.findClass RX11 = some m.cls := hown
  have hl : lv_has ls 2 [(0, .ref (a 0)), (1, .int n1)] := hl
  refine lv_iload_n hx hb dX11_seed_0 rfl (lv_at hl 1 rfl) ?_
  refine lv_iconst (v := 0) hx hb dX11_seed_1 (by decide) ?_
  refine lv_ldc (v := 65535) hx hb hown (hts _ k_534) dX11_seed_2 ?_
  refine eRi (va_runS (As := [.int n1, .int 0, .int 65535]) (rest := []) ⟨hx, hb, hml, hown, hts⟩ (c_X11_within l D cI cB cZ cJ tx n1 0 65535 H.size) (zS hts k_527 v_X11_within ⟨Nat.le_of_ble_eq_true rfl, Nat.le_of_ble_eq_true rfl⟩) (px0 hK) rfl rfl hl.1 rfl (lv_room (Nat.le_of_ble_eq_true rfl)) dX11_seed_4 ⟨Nat.le_of_ble_eq_true rfl, Nat.le_of_ble_eq_true rfl⟩) hP hS hA (fun r_1 H locs wr_1 hP hS => ?_)
  subst wr_1
  refine lv_bi_ne (tgt := 12) hx hb dX11_seed_7 (by decide) (fun c_2 => ?_) (fun c_2 => ?_)
  · obtain ⟨tn1, tn1a, tn1b, tn1e⟩ := of_rng 0 65535 rfl rfl c_2
    subst tn1e
    refine lv_aload_n hx hb dX11_seed_12 rfl (lv_at hl 0 rfl) ?_
    refine va_get (D := D) (ci := 11) (v := .ref (a 5)) (C := RX11) (T := TX11) (N := 13) hx hb hts inT_X11 hown hK.1 hP 0 rfl rfl 4 (by decide) (hts _ k_487) (fun _ h9 => h9) rfl dX11_seed_13 ?_
    refine lv_iload_n hx hb dX11_seed_16 rfl (lv_at hl 1 rfl) ?_
    refine va_putN (D := D) (ci := 4) (v := .int (nI tn1)) (ty := .int) (C := RX4) (T := TX4) (N := 11) hx hb hts inT_X4 tyX4 tyX4_ok nmX4 hown hK.1 hP hD hS 1 rfl rfl 10 (by decide) (va_Nw.use rfl (hK.2.2.1 _ n_263)) (fun _ h9 => h9) rfl (by decide +kernel) rfl rfl (Nat.le_of_ble_eq_true rfl) dX11_seed_17 (fun H locs hP hD hS => ?_)
    have hP : va_P D vwCl [(a 0, .inr (11, [.ref (a 1), .ref (a 2), .ref (a 3), .ref (a 4), .ref (a 5), .ref (a 6), .ref (a 7), .ref (a 8), .ref (a 9), .ref (a 10), .ref (a 11), .ref (a 12), .int ap])), (a 5, .inr (4, [.ref (a 18), .ref (a 19), .ref (a 20), .ref (a 21), .ref (a 22), .ref (a 23), .ref (a 24), .int (nI sn), .int (nI sk), .int scu, .int (nI tn1)]))] H := hP
    have hD : va_D A [(a 0, .inr (11, [.ref (a 1), .ref (a 2), .ref (a 3), .ref (a 4), .ref (a 5), .ref (a 6), .ref (a 7), .ref (a 8), .ref (a 9), .ref (a 10), .ref (a 11), .ref (a 12), .int ap])), (a 5, .inr (4, [.ref (a 18), .ref (a 19), .ref (a 20), .ref (a 21), .ref (a 22), .ref (a 23), .ref (a 24), .int (nI sn), .int (nI sk), .int scu, .int (nI tn1)]))] := hD
    refine lv_iconst (v := 1) hx hb dX11_seed_20 (by decide) ?_
    exact W.zret (v := 1) hx hb hr (by decide) (fun tt9 ht hW => ⟨⟨(1 : Int32), ((nI tn1 : Int32)), rfl, trivial, ⟨by rw [ht]; exact hP, hD⟩⟩, hS.F ht⟩) hS.2.2 dX11_seed_21 hlocks
  · refine lv_iconst (v := 0) hx hb dX11_seed_10 (by decide) ?_
    exact W.zret (v := 0) hx hb hr (by decide) (fun tt9 ht hW => ⟨⟨(0 : Int32), ((sch : Int32)), rfl, trivial, ⟨by rw [ht]; exact hP, hD⟩⟩, hS.F ht⟩) hS.2.2 dX11_seed_11 hlocks

theorem lf_X11_mound_6 (a : Nat → Nat) (ap : Int32) (sn : Nat) (sk : Nat) (scu : Int32) (sch : Int32) (g4 : Nat → Int32) (n1 : Int32) (n2 : Int32) (hsn : sn ≤ 24) (hsk : sk ≤ 8) (c_2 : (0 : Int32) ≤ n1 ∧ n1 ≤ 23) (tn1 : Nat) (tn1a : 0 ≤ tn1) (tn1b : tn1 ≤ 23) (tn1e : n1 = nI tn1) (c_4 : (0 : Int32) ≤ n2 ∧ n2 ≤ 1000) (tn2 : Nat) (tn2a : 0 ≤ tn2) (tn2b : tn2 ≤ 1000) (tn2e : n2 = nI tn2) : vp_in (nI tn1) 24 := by
  first | exact vp_in_nI (by omega) (by decide) | (unfold vp_in; decide)
set_option maxHeartbeats 4000000 in
set_option maxRecDepth 100000 in
theorem c_X11_mound (l : Launch) (D : va_G) (cI cB cZ cJ : ClassId) (tx : List (ClassId × FieldType)) (a : Nat → Nat) (ap : Int32) (sn : Nat) (sk : Nat) (scu : Int32) (sch : Int32) (g4 : Nat → Int32) (n1 : Int32) (n2 : Int32) (hsn : sn ≤ 24) (hsk : sk ≤ 8) : WrI l D cI cB cZ cJ tx yX11_mound cX11_mound 3 (some .boolean) 1 0 0 [.ref (a 0), .int n1, .int n2] [(a 0, .inr (11, [.ref (a 1), .ref (a 2), .ref (a 3), .ref (a 4), .ref (a 5), .ref (a 6), .ref (a 7), .ref (a 8), .ref (a 9), .ref (a 10), .ref (a 11), .ref (a 12), .int ap])), (a 5, .inr (4, [.ref (a 18), .ref (a 19), .ref (a 20), .ref (a 21), .ref (a 22), .ref (a 23), .ref (a 24), .int (nI sn), .int (nI sk), .int scu, .int sch])), (a 22, .inl (cI, 24, .inl g4))] (fun (r : Int32) (v : (Nat → Int32)) => True) (fun v => [(a 0, .inr (11, [.ref (a 1), .ref (a 2), .ref (a 3), .ref (a 4), .ref (a 5), .ref (a 6), .ref (a 7), .ref (a 8), .ref (a 9), .ref (a 10), .ref (a 11), .ref (a 12), .int ap])), (a 5, .inr (4, [.ref (a 18), .ref (a 19), .ref (a 20), .ref (a 21), .ref (a 22), .ref (a 23), .ref (a 24), .int (nI sn), .int (nI sk), .int scu, .int sch])), (a 22, .inl (cI, 24, .inl v))]) := by
  refine wri_of2 (by decide) (Nat.le_of_ble_eq_true rfl) ?_
  intro p e s m below meth c A ls H locs hC hK hP hD hA hS hl
  obtain ⟨hx, hb, hr, hml, hown, hts, hlocks, hin⟩ := hC
  have hown : s.vm.findClass RX11 = some m.cls := hown
  have hl : lv_has ls 3 [(0, .ref (a 0)), (1, .int n1), (2, .int n2)] := hl
  refine lv_iload_n hx hb dX11_mound_0 rfl (lv_at hl 1 rfl) ?_
  refine lv_iconst (v := 0) hx hb dX11_mound_1 (by decide) ?_
  refine lv_bipush (v := 23) hx hb dX11_mound_2 (by decide) ?_
  refine eRi (va_runS (As := [.int n1, .int 0, .int 23]) (rest := []) ⟨hx, hb, hml, hown, hts⟩ (c_X11_within l D cI cB cZ cJ tx n1 0 23 H.size) (zS hts k_527 v_X11_within ⟨Nat.le_of_ble_eq_true rfl, Nat.le_of_ble_eq_true rfl⟩) (px0 hK) rfl rfl hl.1 rfl (lv_room (Nat.le_of_ble_eq_true rfl)) dX11_mound_4 ⟨Nat.le_of_ble_eq_true rfl, Nat.le_of_ble_eq_true rfl⟩) hP hS hA (fun r_1 H locs wr_1 hP hS => ?_)
  subst wr_1
  refine lv_bi_eq (tgt := 21) hx hb dX11_mound_7 (by decide) (fun c_2 => ?_) (fun c_2 => ?_)
  · refine lv_iconst (v := 0) hx hb dX11_mound_21 (by decide) ?_
    exact W.zret (v := 0) hx hb hr (by decide) (fun tt9 ht hW => ⟨⟨(0 : Int32), ((g4 : Nat → Int32)), rfl, trivial, ⟨by rw [ht]; exact hP, hD⟩⟩, hS.F ht⟩) hS.2.2 dX11_mound_22 hlocks
  · obtain ⟨tn1, tn1a, tn1b, tn1e⟩ := of_rng 0 23 rfl rfl c_2
    subst tn1e
    refine lv_iload_n hx hb dX11_mound_10 rfl (lv_at hl 2 rfl) ?_
    refine lv_iconst (v := 0) hx hb dX11_mound_11 (by decide) ?_
    refine lv_sipush (v := 1000) hx hb dX11_mound_12 (by decide) ?_
    refine eRi (va_runS (As := [.int n2, .int 0, .int 1000]) (rest := []) ⟨hx, hb, hml, hown, hts⟩ (c_X11_within l D cI cB cZ cJ tx n2 0 1000 H.size) (zS hts k_527 v_X11_within ⟨Nat.le_of_ble_eq_true rfl, Nat.le_of_ble_eq_true rfl⟩) (px0 hK) rfl rfl hl.1 rfl (lv_room (Nat.le_of_ble_eq_true rfl)) dX11_mound_15 ⟨Nat.le_of_ble_eq_true rfl, Nat.le_of_ble_eq_true rfl⟩) hP hS hA (fun r_3 H locs wr_3 hP hS => ?_)
    subst wr_3
    refine lv_bi_ne (tgt := 23) hx hb dX11_mound_18 (by decide) (fun c_4 => ?_) (fun c_4 => ?_)
    · obtain ⟨tn2, tn2a, tn2b, tn2e⟩ := of_rng 0 1000 rfl rfl c_4
      subst tn2e
      refine lv_aload_n hx hb dX11_mound_23 rfl (lv_at hl 0 rfl) ?_
      refine va_get (D := D) (ci := 11) (v := .ref (a 5)) (C := RX11) (T := TX11) (N := 13) hx hb hts inT_X11 hown hK.1 hP 0 rfl rfl 4 (by decide) (hts _ k_487) (fun _ h9 => h9) rfl dX11_mound_24 ?_
      refine va_getN (D := D) (ci := 4) (v := .ref (a 22)) (C := RX4) (T := TX4) (N := 11) hx hb hts inT_X4 hown hK.1 hP 1 rfl rfl 4 (by decide) (va_Nw.use rfl (hK.2.2.1 _ n_244)) (fun _ h9 => h9) rfl dX11_mound_27 ?_
      refine lv_iload_n hx hb dX11_mound_30 rfl (lv_at hl 1 rfl) ?_
      refine lv_iload_n hx hb dX11_mound_31 rfl (lv_at hl 2 rfl) ?_
      refine st_i hx hb hK hP hD hS 2 rfl (lf_X11_mound_6 a ap sn sk scu sch g4 (nI tn1) (nI tn2) hsn hsk c_2 tn1 tn1a tn1b rfl c_4 tn2 tn2a tn2b rfl) dX11_mound_32 (fun f_5 H locs hP hD hS => ?_)
      have hP : va_P D vwCl [(a 0, .inr (11, [.ref (a 1), .ref (a 2), .ref (a 3), .ref (a 4), .ref (a 5), .ref (a 6), .ref (a 7), .ref (a 8), .ref (a 9), .ref (a 10), .ref (a 11), .ref (a 12), .int ap])), (a 5, .inr (4, [.ref (a 18), .ref (a 19), .ref (a 20), .ref (a 21), .ref (a 22), .ref (a 23), .ref (a 24), .int (nI sn), .int (nI sk), .int scu, .int sch])), (a 22, .inl (cI, 24, .inl f_5))] H := hP
      have hD : va_D A [(a 0, .inr (11, [.ref (a 1), .ref (a 2), .ref (a 3), .ref (a 4), .ref (a 5), .ref (a 6), .ref (a 7), .ref (a 8), .ref (a 9), .ref (a 10), .ref (a 11), .ref (a 12), .int ap])), (a 5, .inr (4, [.ref (a 18), .ref (a 19), .ref (a 20), .ref (a 21), .ref (a 22), .ref (a 23), .ref (a 24), .int (nI sn), .int (nI sk), .int scu, .int sch])), (a 22, .inl (cI, 24, .inl f_5))] := hD
      refine lv_iconst (v := 1) hx hb dX11_mound_33 (by decide) ?_
      exact W.zret (v := 1) hx hb hr (by decide) (fun tt9 ht hW => ⟨⟨(1 : Int32), ((f_5 : Nat → Int32)), rfl, trivial, ⟨by rw [ht]; exact hP, hD⟩⟩, hS.F ht⟩) hS.2.2 dX11_mound_34 hlocks
    · refine lv_iconst (v := 0) hx hb dX11_mound_21 (by decide) ?_
      exact W.zret (v := 0) hx hb hr (by decide) (fun tt9 ht hW => ⟨⟨(0 : Int32), ((g4 : Nat → Int32)), rfl, trivial, ⟨by rw [ht]; exact hP, hD⟩⟩, hS.F ht⟩) hS.2.2 dX11_mound_22 hlocks

set_option maxHeartbeats 4000000 in
set_option maxRecDepth 100000 in
theorem c_X11_cut (l : Launch) (D : va_G) (cI cB cZ cJ : ClassId) (tx : List (ClassId × FieldType)) (a : Nat → Nat) (ap : Int32) (sn : Nat) (sk : Nat) (scu : Int32) (sch : Int32) (g5 : Nat → Int32) (n1 : Int32) (hsn : sn ≤ 24) (hsk : sk ≤ 8) : WrI l D cI cB cZ cJ tx yX11_cut cX11_cut 2 (some .boolean) 2 0 0 [.ref (a 0), .int n1] [(a 0, .inr (11, [.ref (a 1), .ref (a 2), .ref (a 3), .ref (a 4), .ref (a 5), .ref (a 6), .ref (a 7), .ref (a 8), .ref (a 9), .ref (a 10), .ref (a 11), .ref (a 12), .int ap])), (a 5, .inr (4, [.ref (a 18), .ref (a 19), .ref (a 20), .ref (a 21), .ref (a 22), .ref (a 23), .ref (a 24), .int (nI sn), .int (nI sk), .int scu, .int sch])), (a 23, .inl (cI, 8, .inl g5))] (fun (r : Int32) (v : (Int32) × (Nat → Int32)) => True) (fun v => [(a 0, .inr (11, [.ref (a 1), .ref (a 2), .ref (a 3), .ref (a 4), .ref (a 5), .ref (a 6), .ref (a 7), .ref (a 8), .ref (a 9), .ref (a 10), .ref (a 11), .ref (a 12), .int ap])), (a 5, .inr (4, [.ref (a 18), .ref (a 19), .ref (a 20), .ref (a 21), .ref (a 22), .ref (a 23), .ref (a 24), .int (nI sn), .int (nI sk), .int v.1, .int sch])), (a 23, .inl (cI, 8, .inl v.2))]) := by
  refine wri_of2 (by decide) (Nat.le_of_ble_eq_true rfl) ?_
  intro p e s m below meth c A ls H locs hC hK hP hD hA hS hl
  obtain ⟨hx, hb, hr, hml, hown, hts, hlocks, hin⟩ := hC
  have hown : s.vm.findClass RX11 = some m.cls := hown
  have hl : lv_has ls 2 [(0, .ref (a 0)), (1, .int n1)] := hl
  refine lv_iload_n hx hb dX11_cut_0 rfl (lv_at hl 1 rfl) ?_
  refine lv_aload_n hx hb dX11_cut_1 rfl (lv_at hl 0 rfl) ?_
  refine va_get (D := D) (ci := 11) (v := .ref (a 5)) (C := RX11) (T := TX11) (N := 13) hx hb hts inT_X11 hown hK.1 hP 0 rfl rfl 4 (by decide) (hts _ k_487) (fun _ h9 => h9) rfl dX11_cut_2 ?_
  refine eRi (va_runV (As := []) (rest := [.int n1]) ⟨hx, hb, hml, hown, hts⟩ (c_X4_allStations l D cI cB cZ cJ tx a sn sk scu sch H.size) (zV hts k_879 v_X4_allStations ⟨Nat.le_of_ble_eq_true rfl, Nat.le_of_ble_eq_true rfl⟩) (pV (px1 hK hP 1 rfl) hK hP 1 rfl rfl) rfl rfl hl.1 rfl (lv_room (Nat.le_of_ble_eq_true rfl)) dX11_cut_5 ⟨Nat.le_of_ble_eq_true rfl, Nat.le_of_ble_eq_true rfl⟩) hP hS hA (fun r_1 H locs wr_1 hP hS => ?_)
  refine lv_iconst (v := (-1)) hx hb dX11_cut_8 (by decide) ?_
  refine lv_ixor hx hb dX11_cut_9 ?_
  refine lv_topi (fun x_2 ex_2 => ?_)
  refine lv_iand hx hb dX11_cut_10 ?_
  refine lv_topi (fun x_3 ex_3 => ?_)
  refine lv_if_eq (tgt := 16) hx hb dX11_cut_11 (by decide) (fun c_4 => ?_) (fun c_4 => ?_)
  · refine lv_aload_n hx hb dX11_cut_16 rfl (lv_at hl 0 rfl) ?_
    refine va_get (D := D) (ci := 11) (v := .ref (a 5)) (C := RX11) (T := TX11) (N := 13) hx hb hts inT_X11 hown hK.1 hP 0 rfl rfl 4 (by decide) (hts _ k_487) (fun _ h9 => h9) rfl dX11_cut_17 ?_
    refine lv_iload_n hx hb dX11_cut_20 rfl (lv_at hl 1 rfl) ?_
    refine eWv (wr := [(a 0, .inr (11, [.ref (a 1), .ref (a 2), .ref (a 3), .ref (a 4), .ref (a 5), .ref (a 6), .ref (a 7), .ref (a 8), .ref (a 9), .ref (a 10), .ref (a 11), .ref (a 12), .int ap]))]) (va_runV (As := [.int n1]) (rest := []) ⟨hx, hb, hml, hown, hts⟩ (c_X4_cutAway l D cI cB cZ cJ tx a sn sk scu sch g5 n1 H.size) (zV hts k_883 v_X4_cutAway ⟨Nat.le_of_ble_eq_true rfl, Nat.le_of_ble_eq_true rfl⟩) (pV (pxS hK hP hD [1, 2] (by decide) rfl) hK hP 1 rfl rfl) rfl rfl hl.1 rfl (lv_room (Nat.le_of_ble_eq_true rfl)) dX11_cut_21 ⟨Nat.le_of_ble_eq_true rfl, Nat.le_of_ble_eq_true rfl⟩) hP hD hS hA [1, 2] [0] rfl rfl (by decide) (by decide) (fun u_6 H locs wr_5 hP hD hS => ?_)
    obtain ⟨scu_6, g5_6⟩ := u_6
    have hP : va_P D vwCl [(a 0, .inr (11, [.ref (a 1), .ref (a 2), .ref (a 3), .ref (a 4), .ref (a 5), .ref (a 6), .ref (a 7), .ref (a 8), .ref (a 9), .ref (a 10), .ref (a 11), .ref (a 12), .int ap])), (a 5, .inr (4, [.ref (a 18), .ref (a 19), .ref (a 20), .ref (a 21), .ref (a 22), .ref (a 23), .ref (a 24), .int (nI sn), .int (nI sk), .int scu_6, .int sch])), (a 23, .inl (cI, 8, .inl g5_6))] H := hP
    have hD : va_D A [(a 0, .inr (11, [.ref (a 1), .ref (a 2), .ref (a 3), .ref (a 4), .ref (a 5), .ref (a 6), .ref (a 7), .ref (a 8), .ref (a 9), .ref (a 10), .ref (a 11), .ref (a 12), .int ap])), (a 5, .inr (4, [.ref (a 18), .ref (a 19), .ref (a 20), .ref (a 21), .ref (a 22), .ref (a 23), .ref (a 24), .int (nI sn), .int (nI sk), .int scu_6, .int sch])), (a 23, .inl (cI, 8, .inl g5_6))] := hD
    refine lv_iconst (v := 1) hx hb dX11_cut_24 (by decide) ?_
    exact W.zret (v := 1) hx hb hr (by decide) (fun tt9 ht hW => ⟨⟨(1 : Int32), ((scu_6 : Int32), (g5_6 : Nat → Int32)), rfl, trivial, ⟨by rw [ht]; exact hP, hD⟩⟩, hS.F ht⟩) hS.2.2 dX11_cut_25 hlocks
  · refine lv_iconst (v := 0) hx hb dX11_cut_14 (by decide) ?_
    exact W.zret (v := 0) hx hb hr (by decide) (fun tt9 ht hW => ⟨⟨(0 : Int32), ((scu : Int32), (g5 : Nat → Int32)), rfl, trivial, ⟨by rw [ht]; exact hP, hD⟩⟩, hS.F ht⟩) hS.2.2 dX11_cut_15 hlocks

theorem lf_X11_lies_1 (a : Nat → Nat) (ap : Int32) (sn : Nat) (sk : Nat) (scu : Int32) (sch : Int32) (g0 : Nat → Int32) (g1 : Nat → Int32) (g3 : Nat → Int32) (g5 : Nat → Int32) (n1 : Int32) (n2 : Int32) (n3 : Int32) (n4 : Int32) (n5 : Int32) (hsn : sn ≤ 24) (hsk : sk ≤ 8) : sn ≤ 24 := by
  first | assumption | omega | decide
theorem lf_X11_lies_2 (a : Nat → Nat) (ap : Int32) (sn : Nat) (sk : Nat) (scu : Int32) (sch : Int32) (g0 : Nat → Int32) (g1 : Nat → Int32) (g3 : Nat → Int32) (g5 : Nat → Int32) (n1 : Int32) (n2 : Int32) (n3 : Int32) (n4 : Int32) (n5 : Int32) (hsn : sn ≤ 24) (hsk : sk ≤ 8) : sk ≤ 8 := by
  first | assumption | omega | decide
theorem lf_X11_lies_4 (a : Nat → Nat) (ap : Int32) (sn : Nat) (sk : Nat) (scu : Int32) (sch : Int32) (g0 : Nat → Int32) (g1 : Nat → Int32) (g3 : Nat → Int32) (g5 : Nat → Int32) (n1 : Int32) (n2 : Int32) (n3 : Int32) (n4 : Int32) (n5 : Int32) (hsn : sn ≤ 24) (hsk : sk ≤ 8) (ff3 : Nat) (ss3 : Nat) (dd3 : Nat) (hff3 : ff3 < sn) (hss3 : ss3 < sk) (hdd3 : dd3 < 2) : ¬ nI ((ff3 * 8 + ss3) * 2 + dd3) < 0 := by
  first | exact nI_pos (by omega) | exact nI_pos' (by omega)
theorem lf_X11_lies_9 (a : Nat → Nat) (ap : Int32) (sn : Nat) (sk : Nat) (scu : Int32) (sch : Int32) (g0 : Nat → Int32) (g1 : Nat → Int32) (g3 : Nat → Int32) (g5 : Nat → Int32) (n1 : Int32) (n2 : Int32) (n3 : Int32) (n4 : Int32) (n5 : Int32) (hsn : sn ≤ 24) (hsk : sk ≤ 8) (ff3 : Nat) (ss3 : Nat) (dd3 : Nat) (hff3 : ff3 < sn) (hss3 : ss3 < sk) (hdd3 : dd3 < 2) (c_6 : ((-3000) : Int32) ≤ n4 ∧ n4 ≤ 3000) (c_8 : ((-3000) : Int32) ≤ n5 ∧ n5 ≤ 3000) : ((ff3 * 8 + ss3) * 2 + dd3) < 384 := by
  first | assumption | omega | decide
theorem lf_X11_lies_10 (a : Nat → Nat) (ap : Int32) (sn : Nat) (sk : Nat) (scu : Int32) (sch : Int32) (g0 : Nat → Int32) (g1 : Nat → Int32) (g3 : Nat → Int32) (g5 : Nat → Int32) (n1 : Int32) (n2 : Int32) (n3 : Int32) (n4 : Int32) (n5 : Int32) (hsn : sn ≤ 24) (hsk : sk ≤ 8) (ff3 : Nat) (ss3 : Nat) (dd3 : Nat) (hff3 : ff3 < sn) (hss3 : ss3 < sk) (hdd3 : dd3 < 2) (c_6 : ((-3000) : Int32) ≤ n4 ∧ n4 ≤ 3000) (c_8 : ((-3000) : Int32) ≤ n5 ∧ n5 ≤ 3000) : ss3 < 8 := by
  first | assumption | omega | decide
set_option maxHeartbeats 4000000 in
set_option maxRecDepth 100000 in
theorem c_X11_lies (l : Launch) (D : va_G) (cI cB cZ cJ : ClassId) (tx : List (ClassId × FieldType)) (a : Nat → Nat) (ap : Int32) (sn : Nat) (sk : Nat) (scu : Int32) (sch : Int32) (g0 : Nat → Int32) (g1 : Nat → Int32) (g3 : Nat → Int32) (g5 : Nat → Int32) (n1 : Int32) (n2 : Int32) (n3 : Int32) (n4 : Int32) (n5 : Int32) (hsn : sn ≤ 24) (hsk : sk ≤ 8) : WrI l D cI cB cZ cJ tx yX11_lies cX11_lies 7 (some .boolean) 2 0 0 [.ref (a 0), .int n1, .int n2, .int n3, .int n4, .int n5] [(a 0, .inr (11, [.ref (a 1), .ref (a 2), .ref (a 3), .ref (a 4), .ref (a 5), .ref (a 6), .ref (a 7), .ref (a 8), .ref (a 9), .ref (a 10), .ref (a 11), .ref (a 12), .int ap])), (a 5, .inr (4, [.ref (a 18), .ref (a 19), .ref (a 20), .ref (a 21), .ref (a 22), .ref (a 23), .ref (a 24), .int (nI sn), .int (nI sk), .int scu, .int sch])), (a 18, .inl (cI, 384, .inl g0)), (a 19, .inl (cI, 384, .inl g1)), (a 21, .inl (cZ, 384, .inl g3)), (a 23, .inl (cI, 8, .inl g5))] (fun (r : Int32) (v : (Nat → Int32) × (Nat → Int32) × (Nat → Int32) × (Nat → Int32)) => True) (fun v => [(a 0, .inr (11, [.ref (a 1), .ref (a 2), .ref (a 3), .ref (a 4), .ref (a 5), .ref (a 6), .ref (a 7), .ref (a 8), .ref (a 9), .ref (a 10), .ref (a 11), .ref (a 12), .int ap])), (a 5, .inr (4, [.ref (a 18), .ref (a 19), .ref (a 20), .ref (a 21), .ref (a 22), .ref (a 23), .ref (a 24), .int (nI sn), .int (nI sk), .int scu, .int sch])), (a 18, .inl (cI, 384, .inl v.1)), (a 19, .inl (cI, 384, .inl v.2.1)), (a 21, .inl (cZ, 384, .inl v.2.2.1)), (a 23, .inl (cI, 8, .inl v.2.2.2))]) := by
  refine wri_of2 (by decide) (Nat.le_of_ble_eq_true rfl) ?_
  intro p e s m below meth c A ls H locs hC hK hP hD hA hS hl
  obtain ⟨hx, hb, hr, hml, hown, hts, hlocks, hin⟩ := hC
  have hown : s.vm.findClass RX11 = some m.cls := hown
  have hl : lv_has ls 7 [(0, .ref (a 0)), (1, .int n1), (2, .int n2), (3, .int n3), (4, .int n4), (5, .int n5)] := hl
  refine lv_aload_n hx hb dX11_lies_0 rfl (lv_at hl 0 rfl) ?_
  refine va_get (D := D) (ci := 11) (v := .ref (a 5)) (C := RX11) (T := TX11) (N := 13) hx hb hts inT_X11 hown hK.1 hP 0 rfl rfl 4 (by decide) (hts _ k_487) (fun _ h9 => h9) rfl dX11_lies_1 ?_
  refine lv_iload_n hx hb dX11_lies_4 rfl (lv_at hl 1 rfl) ?_
  refine lv_iload_n hx hb dX11_lies_5 rfl (lv_at hl 2 rfl) ?_
  refine lv_iload_n hx hb dX11_lies_6 rfl (lv_at hl 3 rfl) ?_
  refine eRi (va_runV (As := [.int n1, .int n2, .int n3]) (rest := []) ⟨hx, hb, hml, hown, hts⟩ (c_X4_rivetAt_a l D cI cB cZ cJ tx a sn sk scu sch n1 n2 n3 (lf_X11_lies_1 a ap sn sk scu sch g0 g1 g3 g5 n1 n2 n3 n4 n5 hsn hsk) (lf_X11_lies_2 a ap sn sk scu sch g0 g1 g3 g5 n1 n2 n3 n4 n5 hsn hsk) H.size) (zV hts k_850 v_X4_rivetAt ⟨Nat.le_of_ble_eq_true rfl, Nat.le_of_ble_eq_true rfl⟩) (pV (px1 hK hP 1 rfl) hK hP 1 rfl rfl) rfl rfl hl.1 rfl (lv_room (Nat.le_of_ble_eq_true rfl)) dX11_lies_7 ⟨Nat.le_of_ble_eq_true rfl, Nat.le_of_ble_eq_true rfl⟩) hP hS hA (fun r_3 H locs wr_3 hP hS => ?_)
  rcases wr_3 with rfl | ⟨ff3, ss3, dd3, hff3, hss3, hdd3, rfl, rfl, rfl, rfl⟩
  · refine lv_istore (lv' := [(6, .int (-1)), (0, .ref (a 0)), (1, .int n1), (2, .int n2), (3, .int n3), (4, .int n4), (5, .int n5)]) hx hb dX11_lies_10 hl (by decide) rfl (fun ls hl => ?_)
    refine lv_iload hx hb dX11_lies_12 (lv_at hl 0 rfl) ?_
    refine lv_if_lt (tgt := 45) hx hb dX11_lies_14 (by decide) (fun _ => ?_) (fun c => absurd c (by decide))
    refine lv_iconst (v := 0) hx hb dX11_lies_45 (by decide) ?_
    exact W.zret (v := 0) hx hb hr (by decide) (fun tt9 ht hW => ⟨⟨(0 : Int32), ((g0 : Nat → Int32), (g1 : Nat → Int32), (g3 : Nat → Int32), (g5 : Nat → Int32)), rfl, trivial, ⟨by rw [ht]; exact hP, hD⟩⟩, hS.F ht⟩) hS.2.2 dX11_lies_46 hlocks
  · refine lv_istore (lv' := [(6, .int (nI ((ff3 * 8 + ss3) * 2 + dd3))), (0, .ref (a 0)), (1, .int (nI ff3)), (2, .int (nI ss3)), (3, .int (nI dd3)), (4, .int n4), (5, .int n5)]) hx hb dX11_lies_10 hl (by decide) rfl (fun ls hl => ?_)
    refine lv_iload hx hb dX11_lies_12 (lv_at hl 0 rfl) ?_
    refine lv_if_lt (tgt := 45) hx hb dX11_lies_14 (by decide) (fun c => absurd c (lf_X11_lies_4 a ap sn sk scu sch g0 g1 g3 g5 (nI ff3) (nI ss3) (nI dd3) n4 n5 hsn hsk ff3 ss3 dd3 hff3 hss3 hdd3)) (fun _ => ?_)
    refine lv_iload hx hb dX11_lies_17 (lv_at hl 5 rfl) ?_
    refine lv_sipush (v := (-3000)) hx hb dX11_lies_19 (by decide) ?_
    refine lv_sipush (v := 3000) hx hb dX11_lies_22 (by decide) ?_
    refine eRi (va_runS (As := [.int n4, .int (-3000), .int 3000]) (rest := []) ⟨hx, hb, hml, hown, hts⟩ (c_X11_within l D cI cB cZ cJ tx n4 (-3000) 3000 H.size) (zS hts k_527 v_X11_within ⟨Nat.le_of_ble_eq_true rfl, Nat.le_of_ble_eq_true rfl⟩) (px0 hK) rfl rfl hl.1 rfl (lv_room (Nat.le_of_ble_eq_true rfl)) dX11_lies_25 ⟨Nat.le_of_ble_eq_true rfl, Nat.le_of_ble_eq_true rfl⟩) hP hS hA (fun r_5 H locs wr_5 hP hS => ?_)
    subst wr_5
    refine lv_bi_eq (tgt := 45) hx hb dX11_lies_28 (by decide) (fun c_6 => ?_) (fun c_6 => ?_)
    · refine lv_iconst (v := 0) hx hb dX11_lies_45 (by decide) ?_
      exact W.zret (v := 0) hx hb hr (by decide) (fun tt9 ht hW => ⟨⟨(0 : Int32), ((g0 : Nat → Int32), (g1 : Nat → Int32), (g3 : Nat → Int32), (g5 : Nat → Int32)), rfl, trivial, ⟨by rw [ht]; exact hP, hD⟩⟩, hS.F ht⟩) hS.2.2 dX11_lies_46 hlocks
    · refine lv_iload hx hb dX11_lies_31 (lv_at hl 6 rfl) ?_
      refine lv_sipush (v := (-3000)) hx hb dX11_lies_33 (by decide) ?_
      refine lv_sipush (v := 3000) hx hb dX11_lies_36 (by decide) ?_
      refine eRi (va_runS (As := [.int n5, .int (-3000), .int 3000]) (rest := []) ⟨hx, hb, hml, hown, hts⟩ (c_X11_within l D cI cB cZ cJ tx n5 (-3000) 3000 H.size) (zS hts k_527 v_X11_within ⟨Nat.le_of_ble_eq_true rfl, Nat.le_of_ble_eq_true rfl⟩) (px0 hK) rfl rfl hl.1 rfl (lv_room (Nat.le_of_ble_eq_true rfl)) dX11_lies_39 ⟨Nat.le_of_ble_eq_true rfl, Nat.le_of_ble_eq_true rfl⟩) hP hS hA (fun r_7 H locs wr_7 hP hS => ?_)
      subst wr_7
      refine lv_bi_ne (tgt := 47) hx hb dX11_lies_42 (by decide) (fun c_8 => ?_) (fun c_8 => ?_)
      · refine lv_aload_n hx hb dX11_lies_47 rfl (lv_at hl 1 rfl) ?_
        refine va_get (D := D) (ci := 11) (v := .ref (a 5)) (C := RX11) (T := TX11) (N := 13) hx hb hts inT_X11 hown hK.1 hP 0 rfl rfl 4 (by decide) (hts _ k_487) (fun _ h9 => h9) rfl dX11_lies_48 ?_
        refine lv_iload hx hb dX11_lies_51 (lv_at hl 0 rfl) ?_
        refine lv_iload_n hx hb dX11_lies_53 rfl (lv_at hl 3 rfl) ?_
        refine lv_iload hx hb dX11_lies_54 (lv_at hl 5 rfl) ?_
        refine lv_iload hx hb dX11_lies_56 (lv_at hl 6 rfl) ?_
        refine eWv (wr := [(a 0, .inr (11, [.ref (a 1), .ref (a 2), .ref (a 3), .ref (a 4), .ref (a 5), .ref (a 6), .ref (a 7), .ref (a 8), .ref (a 9), .ref (a 10), .ref (a 11), .ref (a 12), .int ap]))]) (va_runV (As := [.int (nI ((ff3 * 8 + ss3) * 2 + dd3)), .int (nI ss3), .int n4, .int n5]) (rest := []) ⟨hx, hb, hml, hown, hts⟩ (c_X4_tell l D cI cB cZ cJ tx a sn sk scu sch g0 g1 g3 g5 ((ff3 * 8 + ss3) * 2 + dd3) ss3 n4 n5 (lf_X11_lies_9 a ap sn sk scu sch g0 g1 g3 g5 (nI ff3) (nI ss3) (nI dd3) n4 n5 hsn hsk ff3 ss3 dd3 hff3 hss3 hdd3 c_6 c_8) (lf_X11_lies_10 a ap sn sk scu sch g0 g1 g3 g5 (nI ff3) (nI ss3) (nI dd3) n4 n5 hsn hsk ff3 ss3 dd3 hff3 hss3 hdd3 c_6 c_8) H.size) (zV hts k_851 v_X4_tell ⟨Nat.le_of_ble_eq_true rfl, Nat.le_of_ble_eq_true rfl⟩) (pV (pxS hK hP hD [1, 2, 3, 4, 5] (by decide) rfl) hK hP 1 rfl rfl) rfl rfl hl.1 rfl (lv_room (Nat.le_of_ble_eq_true rfl)) dX11_lies_58 ⟨Nat.le_of_ble_eq_true rfl, Nat.le_of_ble_eq_true rfl⟩) hP hD hS hA [1, 2, 3, 4, 5] [0] rfl rfl (by decide) (by decide) (fun u_12 H locs wr_11 hP hD hS => ?_)
        obtain ⟨g0_12, g1_12, g3_12, g5_12⟩ := u_12
        have hP : va_P D vwCl [(a 0, .inr (11, [.ref (a 1), .ref (a 2), .ref (a 3), .ref (a 4), .ref (a 5), .ref (a 6), .ref (a 7), .ref (a 8), .ref (a 9), .ref (a 10), .ref (a 11), .ref (a 12), .int ap])), (a 5, .inr (4, [.ref (a 18), .ref (a 19), .ref (a 20), .ref (a 21), .ref (a 22), .ref (a 23), .ref (a 24), .int (nI sn), .int (nI sk), .int scu, .int sch])), (a 18, .inl (cI, 384, .inl g0_12)), (a 19, .inl (cI, 384, .inl g1_12)), (a 21, .inl (cZ, 384, .inl g3_12)), (a 23, .inl (cI, 8, .inl g5_12))] H := hP
        have hD : va_D A [(a 0, .inr (11, [.ref (a 1), .ref (a 2), .ref (a 3), .ref (a 4), .ref (a 5), .ref (a 6), .ref (a 7), .ref (a 8), .ref (a 9), .ref (a 10), .ref (a 11), .ref (a 12), .int ap])), (a 5, .inr (4, [.ref (a 18), .ref (a 19), .ref (a 20), .ref (a 21), .ref (a 22), .ref (a 23), .ref (a 24), .int (nI sn), .int (nI sk), .int scu, .int sch])), (a 18, .inl (cI, 384, .inl g0_12)), (a 19, .inl (cI, 384, .inl g1_12)), (a 21, .inl (cZ, 384, .inl g3_12)), (a 23, .inl (cI, 8, .inl g5_12))] := hD
        refine lv_iconst (v := 1) hx hb dX11_lies_61 (by decide) ?_
        exact W.zret (v := 1) hx hb hr (by decide) (fun tt9 ht hW => ⟨⟨(1 : Int32), ((g0_12 : Nat → Int32), (g1_12 : Nat → Int32), (g3_12 : Nat → Int32), (g5_12 : Nat → Int32)), rfl, trivial, ⟨by rw [ht]; exact hP, hD⟩⟩, hS.F ht⟩) hS.2.2 dX11_lies_62 hlocks
      · refine lv_iconst (v := 0) hx hb dX11_lies_45 (by decide) ?_
        exact W.zret (v := 0) hx hb hr (by decide) (fun tt9 ht hW => ⟨⟨(0 : Int32), ((g0 : Nat → Int32), (g1 : Nat → Int32), (g3 : Nat → Int32), (g5 : Nat → Int32)), rfl, trivial, ⟨by rw [ht]; exact hP, hD⟩⟩, hS.F ht⟩) hS.2.2 dX11_lies_46 hlocks

theorem lf_X11_gone_1 (a : Nat → Nat) (ap : Int32) (sn : Nat) (sk : Nat) (scu : Int32) (sch : Int32) (g3 : Nat → Int32) (g5 : Nat → Int32) (n1 : Int32) (n2 : Int32) (n3 : Int32) (hsn : sn ≤ 24) (hsk : sk ≤ 8) : sn ≤ 24 := by
  first | assumption | omega | decide
theorem lf_X11_gone_2 (a : Nat → Nat) (ap : Int32) (sn : Nat) (sk : Nat) (scu : Int32) (sch : Int32) (g3 : Nat → Int32) (g5 : Nat → Int32) (n1 : Int32) (n2 : Int32) (n3 : Int32) (hsn : sn ≤ 24) (hsk : sk ≤ 8) : sk ≤ 8 := by
  first | assumption | omega | decide
theorem lf_X11_gone_4 (a : Nat → Nat) (ap : Int32) (sn : Nat) (sk : Nat) (scu : Int32) (sch : Int32) (g3 : Nat → Int32) (g5 : Nat → Int32) (n1 : Int32) (n2 : Int32) (n3 : Int32) (hsn : sn ≤ 24) (hsk : sk ≤ 8) (ff3 : Nat) (ss3 : Nat) (dd3 : Nat) (hff3 : ff3 < sn) (hss3 : ss3 < sk) (hdd3 : dd3 < 2) : ¬ nI ((ff3 * 8 + ss3) * 2 + dd3) < 0 := by
  first | exact nI_pos (by omega) | exact nI_pos' (by omega)
theorem lf_X11_gone_5 (a : Nat → Nat) (ap : Int32) (sn : Nat) (sk : Nat) (scu : Int32) (sch : Int32) (g3 : Nat → Int32) (g5 : Nat → Int32) (n1 : Int32) (n2 : Int32) (n3 : Int32) (hsn : sn ≤ 24) (hsk : sk ≤ 8) (ff3 : Nat) (ss3 : Nat) (dd3 : Nat) (hff3 : ff3 < sn) (hss3 : ss3 < sk) (hdd3 : dd3 < 2) : vp_in (nI ((ff3 * 8 + ss3) * 2 + dd3)) 384 := by
  first | exact vp_in_nI (by omega) (by decide) | (unfold vp_in; decide)
theorem lf_X11_gone_8 (a : Nat → Nat) (ap : Int32) (sn : Nat) (sk : Nat) (scu : Int32) (sch : Int32) (g3 : Nat → Int32) (g5 : Nat → Int32) (n1 : Int32) (n2 : Int32) (n3 : Int32) (hsn : sn ≤ 24) (hsk : sk ≤ 8) (ff3 : Nat) (ss3 : Nat) (dd3 : Nat) (hff3 : ff3 < sn) (hss3 : ss3 < sk) (hdd3 : dd3 < 2) (x_6 : Int32) (c_7 : x_6 = 0) : ((ff3 * 8 + ss3) * 2 + dd3) < 384 := by
  first | assumption | omega | decide
theorem lf_X11_gone_9 (a : Nat → Nat) (ap : Int32) (sn : Nat) (sk : Nat) (scu : Int32) (sch : Int32) (g3 : Nat → Int32) (g5 : Nat → Int32) (n1 : Int32) (n2 : Int32) (n3 : Int32) (hsn : sn ≤ 24) (hsk : sk ≤ 8) (ff3 : Nat) (ss3 : Nat) (dd3 : Nat) (hff3 : ff3 < sn) (hss3 : ss3 < sk) (hdd3 : dd3 < 2) (x_6 : Int32) (c_7 : x_6 = 0) : ss3 < 8 := by
  first | assumption | omega | decide
set_option maxHeartbeats 4000000 in
set_option maxRecDepth 100000 in
theorem c_X11_gone (l : Launch) (D : va_G) (cI cB cZ cJ : ClassId) (tx : List (ClassId × FieldType)) (a : Nat → Nat) (ap : Int32) (sn : Nat) (sk : Nat) (scu : Int32) (sch : Int32) (g3 : Nat → Int32) (g5 : Nat → Int32) (n1 : Int32) (n2 : Int32) (n3 : Int32) (hsn : sn ≤ 24) (hsk : sk ≤ 8) : WrI l D cI cB cZ cJ tx yX11_gone cX11_gone 5 (some .boolean) 2 0 0 [.ref (a 0), .int n1, .int n2, .int n3] [(a 0, .inr (11, [.ref (a 1), .ref (a 2), .ref (a 3), .ref (a 4), .ref (a 5), .ref (a 6), .ref (a 7), .ref (a 8), .ref (a 9), .ref (a 10), .ref (a 11), .ref (a 12), .int ap])), (a 5, .inr (4, [.ref (a 18), .ref (a 19), .ref (a 20), .ref (a 21), .ref (a 22), .ref (a 23), .ref (a 24), .int (nI sn), .int (nI sk), .int scu, .int sch])), (a 21, .inl (cZ, 384, .inl g3)), (a 23, .inl (cI, 8, .inl g5))] (fun (r : Int32) (v : (Nat → Int32) × (Nat → Int32)) => True) (fun v => [(a 0, .inr (11, [.ref (a 1), .ref (a 2), .ref (a 3), .ref (a 4), .ref (a 5), .ref (a 6), .ref (a 7), .ref (a 8), .ref (a 9), .ref (a 10), .ref (a 11), .ref (a 12), .int ap])), (a 5, .inr (4, [.ref (a 18), .ref (a 19), .ref (a 20), .ref (a 21), .ref (a 22), .ref (a 23), .ref (a 24), .int (nI sn), .int (nI sk), .int scu, .int sch])), (a 21, .inl (cZ, 384, .inl v.1)), (a 23, .inl (cI, 8, .inl v.2))]) := by
  refine wri_of2 (by decide) (Nat.le_of_ble_eq_true rfl) ?_
  intro p e s m below meth c A ls H locs hC hK hP hD hA hS hl
  obtain ⟨hx, hb, hr, hml, hown, hts, hlocks, hin⟩ := hC
  have hown : s.vm.findClass RX11 = some m.cls := hown
  have hl : lv_has ls 5 [(0, .ref (a 0)), (1, .int n1), (2, .int n2), (3, .int n3)] := hl
  refine lv_aload_n hx hb dX11_gone_0 rfl (lv_at hl 0 rfl) ?_
  refine va_get (D := D) (ci := 11) (v := .ref (a 5)) (C := RX11) (T := TX11) (N := 13) hx hb hts inT_X11 hown hK.1 hP 0 rfl rfl 4 (by decide) (hts _ k_487) (fun _ h9 => h9) rfl dX11_gone_1 ?_
  refine lv_iload_n hx hb dX11_gone_4 rfl (lv_at hl 1 rfl) ?_
  refine lv_iload_n hx hb dX11_gone_5 rfl (lv_at hl 2 rfl) ?_
  refine lv_iload_n hx hb dX11_gone_6 rfl (lv_at hl 3 rfl) ?_
  refine eRi (va_runV (As := [.int n1, .int n2, .int n3]) (rest := []) ⟨hx, hb, hml, hown, hts⟩ (c_X4_rivetAt_a l D cI cB cZ cJ tx a sn sk scu sch n1 n2 n3 (lf_X11_gone_1 a ap sn sk scu sch g3 g5 n1 n2 n3 hsn hsk) (lf_X11_gone_2 a ap sn sk scu sch g3 g5 n1 n2 n3 hsn hsk) H.size) (zV hts k_850 v_X4_rivetAt ⟨Nat.le_of_ble_eq_true rfl, Nat.le_of_ble_eq_true rfl⟩) (pV (px1 hK hP 1 rfl) hK hP 1 rfl rfl) rfl rfl hl.1 rfl (lv_room (Nat.le_of_ble_eq_true rfl)) dX11_gone_7 ⟨Nat.le_of_ble_eq_true rfl, Nat.le_of_ble_eq_true rfl⟩) hP hS hA (fun r_3 H locs wr_3 hP hS => ?_)
  rcases wr_3 with rfl | ⟨ff3, ss3, dd3, hff3, hss3, hdd3, rfl, rfl, rfl, rfl⟩
  · refine lv_istore (lv' := [(4, .int (-1)), (0, .ref (a 0)), (1, .int n1), (2, .int n2), (3, .int n3)]) hx hb dX11_gone_10 hl (by decide) rfl (fun ls hl => ?_)
    refine lv_iload hx hb dX11_gone_12 (lv_at hl 0 rfl) ?_
    refine lv_if_lt (tgt := 30) hx hb dX11_gone_14 (by decide) (fun _ => ?_) (fun c => absurd c (by decide))
    refine lv_iconst (v := 0) hx hb dX11_gone_30 (by decide) ?_
    exact W.zret (v := 0) hx hb hr (by decide) (fun tt9 ht hW => ⟨⟨(0 : Int32), ((g3 : Nat → Int32), (g5 : Nat → Int32)), rfl, trivial, ⟨by rw [ht]; exact hP, hD⟩⟩, hS.F ht⟩) hS.2.2 dX11_gone_31 hlocks
  · refine lv_istore (lv' := [(4, .int (nI ((ff3 * 8 + ss3) * 2 + dd3))), (0, .ref (a 0)), (1, .int (nI ff3)), (2, .int (nI ss3)), (3, .int (nI dd3))]) hx hb dX11_gone_10 hl (by decide) rfl (fun ls hl => ?_)
    refine lv_iload hx hb dX11_gone_12 (lv_at hl 0 rfl) ?_
    refine lv_if_lt (tgt := 30) hx hb dX11_gone_14 (by decide) (fun c => absurd c (lf_X11_gone_4 a ap sn sk scu sch g3 g5 (nI ff3) (nI ss3) (nI dd3) hsn hsk ff3 ss3 dd3 hff3 hss3 hdd3)) (fun _ => ?_)
    refine lv_aload_n hx hb dX11_gone_17 rfl (lv_at hl 1 rfl) ?_
    refine va_get (D := D) (ci := 11) (v := .ref (a 5)) (C := RX11) (T := TX11) (N := 13) hx hb hts inT_X11 hown hK.1 hP 0 rfl rfl 4 (by decide) (hts _ k_487) (fun _ h9 => h9) rfl dX11_gone_18 ?_
    refine va_getN (D := D) (ci := 4) (v := .ref (a 21)) (C := RX4) (T := TX4) (N := 11) hx hb hts inT_X4 hown hK.1 hP 1 rfl rfl 3 (by decide) (va_Nw.use rfl (hK.2.2.1 _ n_242)) (fun _ h9 => h9) rfl dX11_gone_21 ?_
    refine lv_iload hx hb dX11_gone_24 (lv_at hl 0 rfl) ?_
    refine ld_z hx hb hK hP 2 rfl (lf_X11_gone_5 a ap sn sk scu sch g3 g5 (nI ff3) (nI ss3) (nI dd3) hsn hsk ff3 ss3 dd3 hff3 hss3 hdd3) dX11_gone_26 (fun x_6 => ?_)
    refine lv_if_eq (tgt := 32) hx hb dX11_gone_27 (by decide) (fun c_7 => ?_) (fun c_7 => ?_)
    · refine lv_aload_n hx hb dX11_gone_32 rfl (lv_at hl 1 rfl) ?_
      refine va_get (D := D) (ci := 11) (v := .ref (a 5)) (C := RX11) (T := TX11) (N := 13) hx hb hts inT_X11 hown hK.1 hP 0 rfl rfl 4 (by decide) (hts _ k_487) (fun _ h9 => h9) rfl dX11_gone_33 ?_
      refine lv_iload hx hb dX11_gone_36 (lv_at hl 0 rfl) ?_
      refine lv_iload_n hx hb dX11_gone_38 rfl (lv_at hl 3 rfl) ?_
      refine eWv (wr := [(a 0, .inr (11, [.ref (a 1), .ref (a 2), .ref (a 3), .ref (a 4), .ref (a 5), .ref (a 6), .ref (a 7), .ref (a 8), .ref (a 9), .ref (a 10), .ref (a 11), .ref (a 12), .int ap]))]) (va_runV (As := [.int (nI ((ff3 * 8 + ss3) * 2 + dd3)), .int (nI ss3)]) (rest := []) ⟨hx, hb, hml, hown, hts⟩ (c_X4_lose l D cI cB cZ cJ tx a sn sk scu sch g3 g5 ((ff3 * 8 + ss3) * 2 + dd3) ss3 (lf_X11_gone_8 a ap sn sk scu sch g3 g5 (nI ff3) (nI ss3) (nI dd3) hsn hsk ff3 ss3 dd3 hff3 hss3 hdd3 x_6 c_7) (lf_X11_gone_9 a ap sn sk scu sch g3 g5 (nI ff3) (nI ss3) (nI dd3) hsn hsk ff3 ss3 dd3 hff3 hss3 hdd3 x_6 c_7) H.size) (zV hts k_859 v_X4_lose ⟨Nat.le_of_ble_eq_true rfl, Nat.le_of_ble_eq_true rfl⟩) (pV (pxS hK hP hD [1, 2, 3] (by decide) rfl) hK hP 1 rfl rfl) rfl rfl hl.1 rfl (lv_room (Nat.le_of_ble_eq_true rfl)) dX11_gone_39 ⟨Nat.le_of_ble_eq_true rfl, Nat.le_of_ble_eq_true rfl⟩) hP hD hS hA [1, 2, 3] [0] rfl rfl (by decide) (by decide) (fun u_11 H locs wr_10 hP hD hS => ?_)
      obtain ⟨g3_11, g5_11⟩ := u_11
      have hP : va_P D vwCl [(a 0, .inr (11, [.ref (a 1), .ref (a 2), .ref (a 3), .ref (a 4), .ref (a 5), .ref (a 6), .ref (a 7), .ref (a 8), .ref (a 9), .ref (a 10), .ref (a 11), .ref (a 12), .int ap])), (a 5, .inr (4, [.ref (a 18), .ref (a 19), .ref (a 20), .ref (a 21), .ref (a 22), .ref (a 23), .ref (a 24), .int (nI sn), .int (nI sk), .int scu, .int sch])), (a 21, .inl (cZ, 384, .inl g3_11)), (a 23, .inl (cI, 8, .inl g5_11))] H := hP
      have hD : va_D A [(a 0, .inr (11, [.ref (a 1), .ref (a 2), .ref (a 3), .ref (a 4), .ref (a 5), .ref (a 6), .ref (a 7), .ref (a 8), .ref (a 9), .ref (a 10), .ref (a 11), .ref (a 12), .int ap])), (a 5, .inr (4, [.ref (a 18), .ref (a 19), .ref (a 20), .ref (a 21), .ref (a 22), .ref (a 23), .ref (a 24), .int (nI sn), .int (nI sk), .int scu, .int sch])), (a 21, .inl (cZ, 384, .inl g3_11)), (a 23, .inl (cI, 8, .inl g5_11))] := hD
      refine lv_iconst (v := 1) hx hb dX11_gone_42 (by decide) ?_
      exact W.zret (v := 1) hx hb hr (by decide) (fun tt9 ht hW => ⟨⟨(1 : Int32), ((g3_11 : Nat → Int32), (g5_11 : Nat → Int32)), rfl, trivial, ⟨by rw [ht]; exact hP, hD⟩⟩, hS.F ht⟩) hS.2.2 dX11_gone_43 hlocks
    · refine lv_iconst (v := 0) hx hb dX11_gone_30 (by decide) ?_
      exact W.zret (v := 0) hx hb hr (by decide) (fun tt9 ht hW => ⟨⟨(0 : Int32), ((g3 : Nat → Int32), (g5 : Nat → Int32)), rfl, trivial, ⟨by rw [ht]; exact hP, hD⟩⟩, hS.F ht⟩) hS.2.2 dX11_gone_31 hlocks

theorem lf_X11_phosphor_7 (a : Nat → Nat) (ap : Int32) (bc : Int32) (br : Int32) (bm : Int32) (ba : Int32) (bp : Int32) (pc_ : Nat → Int32) (n1 : Int32) (n2 : Int32) (n3 : Int32) (c_2 : (0 : Int32) ≤ n1 ∧ n1 ≤ 11) (tn1 : Nat) (tn1a : 0 ≤ tn1) (tn1b : tn1 ≤ 11) (tn1e : n1 = nI tn1) (c_4 : (0 : Int32) ≤ n2 ∧ n2 ≤ 5) (tn2 : Nat) (tn2a : 0 ≤ tn2) (tn2b : tn2 ≤ 5) (tn2e : n2 = nI tn2) (c_6 : (0 : Int32) ≤ n3 ∧ n3 ≤ 999) (tn3 : Nat) (tn3a : 0 ≤ tn3) (tn3b : tn3 ≤ 999) (tn3e : n3 = nI tn3) : tn1 ≤ 11 := by
  first | assumption | omega | decide
theorem lf_X11_phosphor_8 (a : Nat → Nat) (ap : Int32) (bc : Int32) (br : Int32) (bm : Int32) (ba : Int32) (bp : Int32) (pc_ : Nat → Int32) (n1 : Int32) (n2 : Int32) (n3 : Int32) (c_2 : (0 : Int32) ≤ n1 ∧ n1 ≤ 11) (tn1 : Nat) (tn1a : 0 ≤ tn1) (tn1b : tn1 ≤ 11) (tn1e : n1 = nI tn1) (c_4 : (0 : Int32) ≤ n2 ∧ n2 ≤ 5) (tn2 : Nat) (tn2a : 0 ≤ tn2) (tn2b : tn2 ≤ 5) (tn2e : n2 = nI tn2) (c_6 : (0 : Int32) ≤ n3 ∧ n3 ≤ 999) (tn3 : Nat) (tn3a : 0 ≤ tn3) (tn3b : tn3 ≤ 999) (tn3e : n3 = nI tn3) : tn2 ≤ 5 := by
  first | assumption | omega | decide
set_option maxHeartbeats 4000000 in
set_option maxRecDepth 100000 in
theorem c_X11_phosphor (l : Launch) (D : va_G) (cI cB cZ cJ : ClassId) (tx : List (ClassId × FieldType)) (a : Nat → Nat) (ap : Int32) (bc : Int32) (br : Int32) (bm : Int32) (ba : Int32) (bp : Int32) (pc_ : Nat → Int32) (n1 : Int32) (n2 : Int32) (n3 : Int32) : WrI l D cI cB cZ cJ tx yX11_phosphor cX11_phosphor 4 (some .boolean) 2 0 0 [.ref (a 0), .int n1, .int n2, .int n3] [(a 0, .inr (11, [.ref (a 1), .ref (a 2), .ref (a 3), .ref (a 4), .ref (a 5), .ref (a 6), .ref (a 7), .ref (a 8), .ref (a 9), .ref (a 10), .ref (a 11), .ref (a 12), .int ap])), (a 11, .inr (6, [.ref (a 47), .int bc, .int br, .int bm, .int ba, .int bp])), (a 47, .inl (cI, 72, .inl pc_))] (fun (r : Int32) (v : (Nat → Int32)) => True) (fun v => [(a 0, .inr (11, [.ref (a 1), .ref (a 2), .ref (a 3), .ref (a 4), .ref (a 5), .ref (a 6), .ref (a 7), .ref (a 8), .ref (a 9), .ref (a 10), .ref (a 11), .ref (a 12), .int ap])), (a 11, .inr (6, [.ref (a 47), .int bc, .int br, .int bm, .int ba, .int bp])), (a 47, .inl (cI, 72, .inl v))]) := by
  refine wri_of2 (by decide) (Nat.le_of_ble_eq_true rfl) ?_
  intro p e s m below meth c A ls H locs hC hK hP hD hA hS hl
  obtain ⟨hx, hb, hr, hml, hown, hts, hlocks, hin⟩ := hC
  have hown : s.vm.findClass RX11 = some m.cls := hown
  have hl : lv_has ls 4 [(0, .ref (a 0)), (1, .int n1), (2, .int n2), (3, .int n3)] := hl
  refine lv_iload_n hx hb dX11_phosphor_0 rfl (lv_at hl 1 rfl) ?_
  refine lv_iconst (v := 0) hx hb dX11_phosphor_1 (by decide) ?_
  refine lv_bipush (v := 11) hx hb dX11_phosphor_2 (by decide) ?_
  refine eRi (va_runS (As := [.int n1, .int 0, .int 11]) (rest := []) ⟨hx, hb, hml, hown, hts⟩ (c_X11_within l D cI cB cZ cJ tx n1 0 11 H.size) (zS hts k_527 v_X11_within ⟨Nat.le_of_ble_eq_true rfl, Nat.le_of_ble_eq_true rfl⟩) (px0 hK) rfl rfl hl.1 rfl (lv_room (Nat.le_of_ble_eq_true rfl)) dX11_phosphor_4 ⟨Nat.le_of_ble_eq_true rfl, Nat.le_of_ble_eq_true rfl⟩) hP hS hA (fun r_1 H locs wr_1 hP hS => ?_)
  subst wr_1
  refine lv_bi_eq (tgt := 30) hx hb dX11_phosphor_7 (by decide) (fun c_2 => ?_) (fun c_2 => ?_)
  · refine lv_iconst (v := 0) hx hb dX11_phosphor_30 (by decide) ?_
    exact W.zret (v := 0) hx hb hr (by decide) (fun tt9 ht hW => ⟨⟨(0 : Int32), ((pc_ : Nat → Int32)), rfl, trivial, ⟨by rw [ht]; exact hP, hD⟩⟩, hS.F ht⟩) hS.2.2 dX11_phosphor_31 hlocks
  · obtain ⟨tn1, tn1a, tn1b, tn1e⟩ := of_rng 0 11 rfl rfl c_2
    subst tn1e
    refine lv_iload_n hx hb dX11_phosphor_10 rfl (lv_at hl 2 rfl) ?_
    refine lv_iconst (v := 0) hx hb dX11_phosphor_11 (by decide) ?_
    refine lv_iconst (v := 5) hx hb dX11_phosphor_12 (by decide) ?_
    refine eRi (va_runS (As := [.int n2, .int 0, .int 5]) (rest := []) ⟨hx, hb, hml, hown, hts⟩ (c_X11_within l D cI cB cZ cJ tx n2 0 5 H.size) (zS hts k_527 v_X11_within ⟨Nat.le_of_ble_eq_true rfl, Nat.le_of_ble_eq_true rfl⟩) (px0 hK) rfl rfl hl.1 rfl (lv_room (Nat.le_of_ble_eq_true rfl)) dX11_phosphor_13 ⟨Nat.le_of_ble_eq_true rfl, Nat.le_of_ble_eq_true rfl⟩) hP hS hA (fun r_3 H locs wr_3 hP hS => ?_)
    subst wr_3
    refine lv_bi_eq (tgt := 30) hx hb dX11_phosphor_16 (by decide) (fun c_4 => ?_) (fun c_4 => ?_)
    · refine lv_iconst (v := 0) hx hb dX11_phosphor_30 (by decide) ?_
      exact W.zret (v := 0) hx hb hr (by decide) (fun tt9 ht hW => ⟨⟨(0 : Int32), ((pc_ : Nat → Int32)), rfl, trivial, ⟨by rw [ht]; exact hP, hD⟩⟩, hS.F ht⟩) hS.2.2 dX11_phosphor_31 hlocks
    · obtain ⟨tn2, tn2a, tn2b, tn2e⟩ := of_rng 0 5 rfl rfl c_4
      subst tn2e
      refine lv_iload_n hx hb dX11_phosphor_19 rfl (lv_at hl 3 rfl) ?_
      refine lv_iconst (v := 0) hx hb dX11_phosphor_20 (by decide) ?_
      refine lv_sipush (v := 999) hx hb dX11_phosphor_21 (by decide) ?_
      refine eRi (va_runS (As := [.int n3, .int 0, .int 999]) (rest := []) ⟨hx, hb, hml, hown, hts⟩ (c_X11_within l D cI cB cZ cJ tx n3 0 999 H.size) (zS hts k_527 v_X11_within ⟨Nat.le_of_ble_eq_true rfl, Nat.le_of_ble_eq_true rfl⟩) (px0 hK) rfl rfl hl.1 rfl (lv_room (Nat.le_of_ble_eq_true rfl)) dX11_phosphor_24 ⟨Nat.le_of_ble_eq_true rfl, Nat.le_of_ble_eq_true rfl⟩) hP hS hA (fun r_5 H locs wr_5 hP hS => ?_)
      subst wr_5
      refine lv_bi_ne (tgt := 32) hx hb dX11_phosphor_27 (by decide) (fun c_6 => ?_) (fun c_6 => ?_)
      · obtain ⟨tn3, tn3a, tn3b, tn3e⟩ := of_rng 0 999 rfl rfl c_6
        subst tn3e
        refine lv_aload_n hx hb dX11_phosphor_32 rfl (lv_at hl 0 rfl) ?_
        refine va_get (D := D) (ci := 11) (v := .ref (a 11)) (C := RX11) (T := TX11) (N := 13) hx hb hts inT_X11 hown hK.1 hP 0 rfl rfl 10 (by decide) (hts _ k_493) (fun _ h9 => h9) rfl dX11_phosphor_33 ?_
        refine lv_iload_n hx hb dX11_phosphor_36 rfl (lv_at hl 1 rfl) ?_
        refine lv_iload_n hx hb dX11_phosphor_37 rfl (lv_at hl 2 rfl) ?_
        refine lv_iload_n hx hb dX11_phosphor_38 rfl (lv_at hl 3 rfl) ?_
        refine eWv (wr := [(a 0, .inr (11, [.ref (a 1), .ref (a 2), .ref (a 3), .ref (a 4), .ref (a 5), .ref (a 6), .ref (a 7), .ref (a 8), .ref (a 9), .ref (a 10), .ref (a 11), .ref (a 12), .int ap]))]) (va_runV (As := [.int (nI tn1), .int (nI tn2), .int (nI tn3)]) (rest := []) ⟨hx, hb, hml, hown, hts⟩ (c_X6_put l D cI cB cZ cJ tx a bc br bm ba bp pc_ tn1 tn2 (nI tn3) (lf_X11_phosphor_7 a ap bc br bm ba bp pc_ (nI tn1) (nI tn2) (nI tn3) c_2 tn1 tn1a tn1b rfl c_4 tn2 tn2a tn2b rfl c_6 tn3 tn3a tn3b rfl) (lf_X11_phosphor_8 a ap bc br bm ba bp pc_ (nI tn1) (nI tn2) (nI tn3) c_2 tn1 tn1a tn1b rfl c_4 tn2 tn2a tn2b rfl c_6 tn3 tn3a tn3b rfl) H.size) (zV hts k_1169 v_X6_put ⟨Nat.le_of_ble_eq_true rfl, Nat.le_of_ble_eq_true rfl⟩) (pV (pxS hK hP hD [1, 2] (by decide) rfl) hK hP 1 rfl rfl) rfl rfl hl.1 rfl (lv_room (Nat.le_of_ble_eq_true rfl)) dX11_phosphor_39 ⟨Nat.le_of_ble_eq_true rfl, Nat.le_of_ble_eq_true rfl⟩) hP hD hS hA [1, 2] [0] rfl rfl (by decide) (by decide) (fun u_10 H locs wr_9 hP hD hS => ?_)
        obtain ⟨pc__10, rfl⟩ : ∃ z, z = u_10 := ⟨_, rfl⟩
        have hP : va_P D vwCl [(a 0, .inr (11, [.ref (a 1), .ref (a 2), .ref (a 3), .ref (a 4), .ref (a 5), .ref (a 6), .ref (a 7), .ref (a 8), .ref (a 9), .ref (a 10), .ref (a 11), .ref (a 12), .int ap])), (a 11, .inr (6, [.ref (a 47), .int bc, .int br, .int bm, .int ba, .int bp])), (a 47, .inl (cI, 72, .inl pc__10))] H := hP
        have hD : va_D A [(a 0, .inr (11, [.ref (a 1), .ref (a 2), .ref (a 3), .ref (a 4), .ref (a 5), .ref (a 6), .ref (a 7), .ref (a 8), .ref (a 9), .ref (a 10), .ref (a 11), .ref (a 12), .int ap])), (a 11, .inr (6, [.ref (a 47), .int bc, .int br, .int bm, .int ba, .int bp])), (a 47, .inl (cI, 72, .inl pc__10))] := hD
        refine lv_iconst (v := 1) hx hb dX11_phosphor_42 (by decide) ?_
        exact W.zret (v := 1) hx hb hr (by decide) (fun tt9 ht hW => ⟨⟨(1 : Int32), ((pc__10 : Nat → Int32)), rfl, trivial, ⟨by rw [ht]; exact hP, hD⟩⟩, hS.F ht⟩) hS.2.2 dX11_phosphor_43 hlocks
      · refine lv_iconst (v := 0) hx hb dX11_phosphor_30 (by decide) ?_
        exact W.zret (v := 0) hx hb hr (by decide) (fun tt9 ht hW => ⟨⟨(0 : Int32), ((pc_ : Nat → Int32)), rfl, trivial, ⟨by rw [ht]; exact hP, hD⟩⟩, hS.F ht⟩) hS.2.2 dX11_phosphor_31 hlocks

theorem lf_X11_story_7 (a : Nat → Nat) (ap : Int32) (y0 : Nat → Int32) (y1 : Nat → Int32) (n1 : Int32) (n2 : Int32) (n3 : Int32) (c_2 : (0 : Int32) ≤ n1 ∧ n1 ≤ 5) (tn1 : Nat) (tn1a : 0 ≤ tn1) (tn1b : tn1 ≤ 5) (tn1e : n1 = nI tn1) (c_4 : (0 : Int32) ≤ n2 ∧ n2 ≤ 5) (tn2 : Nat) (tn2a : 0 ≤ tn2) (tn2b : tn2 ≤ 5) (tn2e : n2 = nI tn2) (c_6 : (0 : Int32) ≤ n3 ∧ n3 ≤ 1000) (tn3 : Nat) (tn3a : 0 ≤ tn3) (tn3b : tn3 ≤ 1000) (tn3e : n3 = nI tn3) : tn1 ≤ 5 := by
  first | assumption | omega | decide
theorem lf_X11_story_8 (a : Nat → Nat) (ap : Int32) (y0 : Nat → Int32) (y1 : Nat → Int32) (n1 : Int32) (n2 : Int32) (n3 : Int32) (c_2 : (0 : Int32) ≤ n1 ∧ n1 ≤ 5) (tn1 : Nat) (tn1a : 0 ≤ tn1) (tn1b : tn1 ≤ 5) (tn1e : n1 = nI tn1) (c_4 : (0 : Int32) ≤ n2 ∧ n2 ≤ 5) (tn2 : Nat) (tn2a : 0 ≤ tn2) (tn2b : tn2 ≤ 5) (tn2e : n2 = nI tn2) (c_6 : (0 : Int32) ≤ n3 ∧ n3 ≤ 1000) (tn3 : Nat) (tn3a : 0 ≤ tn3) (tn3b : tn3 ≤ 1000) (tn3e : n3 = nI tn3) : tn2 ≤ 5 := by
  first | assumption | omega | decide
set_option maxHeartbeats 4000000 in
set_option maxRecDepth 100000 in
theorem c_X11_story (l : Launch) (D : va_G) (cI cB cZ cJ : ClassId) (tx : List (ClassId × FieldType)) (a : Nat → Nat) (ap : Int32) (y0 : Nat → Int32) (y1 : Nat → Int32) (n1 : Int32) (n2 : Int32) (n3 : Int32) : WrI l D cI cB cZ cJ tx yX11_story cX11_story 4 (some .boolean) 2 0 0 [.ref (a 0), .int n1, .int n2, .int n3] [(a 0, .inr (11, [.ref (a 1), .ref (a 2), .ref (a 3), .ref (a 4), .ref (a 5), .ref (a 6), .ref (a 7), .ref (a 8), .ref (a 9), .ref (a 10), .ref (a 11), .ref (a 12), .int ap])), (a 12, .inr (7, [.ref (a 48), .ref (a 49), .ref (a 50)])), (a 48, .inl (cI, 36, .inl y0)), (a 49, .inl (cZ, 6, .inl y1))] (fun (r : Int32) (v : (Nat → Int32) × (Nat → Int32)) => True) (fun v => [(a 0, .inr (11, [.ref (a 1), .ref (a 2), .ref (a 3), .ref (a 4), .ref (a 5), .ref (a 6), .ref (a 7), .ref (a 8), .ref (a 9), .ref (a 10), .ref (a 11), .ref (a 12), .int ap])), (a 12, .inr (7, [.ref (a 48), .ref (a 49), .ref (a 50)])), (a 48, .inl (cI, 36, .inl v.1)), (a 49, .inl (cZ, 6, .inl v.2))]) := by
  refine wri_of2 (by decide) (Nat.le_of_ble_eq_true rfl) ?_
  intro p e s m below meth c A ls H locs hC hK hP hD hA hS hl
  obtain ⟨hx, hb, hr, hml, hown, hts, hlocks, hin⟩ := hC
  have hown : s.vm.findClass RX11 = some m.cls := hown
  have hl : lv_has ls 4 [(0, .ref (a 0)), (1, .int n1), (2, .int n2), (3, .int n3)] := hl
  refine lv_iload_n hx hb dX11_story_0 rfl (lv_at hl 1 rfl) ?_
  refine lv_iconst (v := 0) hx hb dX11_story_1 (by decide) ?_
  refine lv_iconst (v := 5) hx hb dX11_story_2 (by decide) ?_
  refine eRi (va_runS (As := [.int n1, .int 0, .int 5]) (rest := []) ⟨hx, hb, hml, hown, hts⟩ (c_X11_within l D cI cB cZ cJ tx n1 0 5 H.size) (zS hts k_527 v_X11_within ⟨Nat.le_of_ble_eq_true rfl, Nat.le_of_ble_eq_true rfl⟩) (px0 hK) rfl rfl hl.1 rfl (lv_room (Nat.le_of_ble_eq_true rfl)) dX11_story_3 ⟨Nat.le_of_ble_eq_true rfl, Nat.le_of_ble_eq_true rfl⟩) hP hS hA (fun r_1 H locs wr_1 hP hS => ?_)
  subst wr_1
  refine lv_bi_eq (tgt := 29) hx hb dX11_story_6 (by decide) (fun c_2 => ?_) (fun c_2 => ?_)
  · refine lv_iconst (v := 0) hx hb dX11_story_29 (by decide) ?_
    exact W.zret (v := 0) hx hb hr (by decide) (fun tt9 ht hW => ⟨⟨(0 : Int32), ((y0 : Nat → Int32), (y1 : Nat → Int32)), rfl, trivial, ⟨by rw [ht]; exact hP, hD⟩⟩, hS.F ht⟩) hS.2.2 dX11_story_30 hlocks
  · obtain ⟨tn1, tn1a, tn1b, tn1e⟩ := of_rng 0 5 rfl rfl c_2
    subst tn1e
    refine lv_iload_n hx hb dX11_story_9 rfl (lv_at hl 2 rfl) ?_
    refine lv_iconst (v := 0) hx hb dX11_story_10 (by decide) ?_
    refine lv_iconst (v := 5) hx hb dX11_story_11 (by decide) ?_
    refine eRi (va_runS (As := [.int n2, .int 0, .int 5]) (rest := []) ⟨hx, hb, hml, hown, hts⟩ (c_X11_within l D cI cB cZ cJ tx n2 0 5 H.size) (zS hts k_527 v_X11_within ⟨Nat.le_of_ble_eq_true rfl, Nat.le_of_ble_eq_true rfl⟩) (px0 hK) rfl rfl hl.1 rfl (lv_room (Nat.le_of_ble_eq_true rfl)) dX11_story_12 ⟨Nat.le_of_ble_eq_true rfl, Nat.le_of_ble_eq_true rfl⟩) hP hS hA (fun r_3 H locs wr_3 hP hS => ?_)
    subst wr_3
    refine lv_bi_eq (tgt := 29) hx hb dX11_story_15 (by decide) (fun c_4 => ?_) (fun c_4 => ?_)
    · refine lv_iconst (v := 0) hx hb dX11_story_29 (by decide) ?_
      exact W.zret (v := 0) hx hb hr (by decide) (fun tt9 ht hW => ⟨⟨(0 : Int32), ((y0 : Nat → Int32), (y1 : Nat → Int32)), rfl, trivial, ⟨by rw [ht]; exact hP, hD⟩⟩, hS.F ht⟩) hS.2.2 dX11_story_30 hlocks
    · obtain ⟨tn2, tn2a, tn2b, tn2e⟩ := of_rng 0 5 rfl rfl c_4
      subst tn2e
      refine lv_iload_n hx hb dX11_story_18 rfl (lv_at hl 3 rfl) ?_
      refine lv_iconst (v := 0) hx hb dX11_story_19 (by decide) ?_
      refine lv_sipush (v := 1000) hx hb dX11_story_20 (by decide) ?_
      refine eRi (va_runS (As := [.int n3, .int 0, .int 1000]) (rest := []) ⟨hx, hb, hml, hown, hts⟩ (c_X11_within l D cI cB cZ cJ tx n3 0 1000 H.size) (zS hts k_527 v_X11_within ⟨Nat.le_of_ble_eq_true rfl, Nat.le_of_ble_eq_true rfl⟩) (px0 hK) rfl rfl hl.1 rfl (lv_room (Nat.le_of_ble_eq_true rfl)) dX11_story_23 ⟨Nat.le_of_ble_eq_true rfl, Nat.le_of_ble_eq_true rfl⟩) hP hS hA (fun r_5 H locs wr_5 hP hS => ?_)
      subst wr_5
      refine lv_bi_ne (tgt := 31) hx hb dX11_story_26 (by decide) (fun c_6 => ?_) (fun c_6 => ?_)
      · obtain ⟨tn3, tn3a, tn3b, tn3e⟩ := of_rng 0 1000 rfl rfl c_6
        subst tn3e
        refine lv_aload_n hx hb dX11_story_31 rfl (lv_at hl 0 rfl) ?_
        refine va_get (D := D) (ci := 11) (v := .ref (a 12)) (C := RX11) (T := TX11) (N := 13) hx hb hts inT_X11 hown hK.1 hP 0 rfl rfl 11 (by decide) (hts _ k_494) (fun _ h9 => h9) rfl dX11_story_32 ?_
        refine lv_iload_n hx hb dX11_story_35 rfl (lv_at hl 1 rfl) ?_
        refine lv_iload_n hx hb dX11_story_36 rfl (lv_at hl 2 rfl) ?_
        refine lv_iload_n hx hb dX11_story_37 rfl (lv_at hl 3 rfl) ?_
        refine eWv (wr := [(a 0, .inr (11, [.ref (a 1), .ref (a 2), .ref (a 3), .ref (a 4), .ref (a 5), .ref (a 6), .ref (a 7), .ref (a 8), .ref (a 9), .ref (a 10), .ref (a 11), .ref (a 12), .int ap]))]) (va_runV (As := [.int (nI tn1), .int (nI tn2), .int (nI tn3)]) (rest := []) ⟨hx, hb, hml, hown, hts⟩ (c_X7_tell l D cI cB cZ cJ tx a y0 y1 tn1 tn2 (nI tn3) (lf_X11_story_7 a ap y0 y1 (nI tn1) (nI tn2) (nI tn3) c_2 tn1 tn1a tn1b rfl c_4 tn2 tn2a tn2b rfl c_6 tn3 tn3a tn3b rfl) (lf_X11_story_8 a ap y0 y1 (nI tn1) (nI tn2) (nI tn3) c_2 tn1 tn1a tn1b rfl c_4 tn2 tn2a tn2b rfl c_6 tn3 tn3a tn3b rfl) H.size) (zV hts k_1193 v_X7_tell ⟨Nat.le_of_ble_eq_true rfl, Nat.le_of_ble_eq_true rfl⟩) (pV (pxS hK hP hD [1, 2, 3] (by decide) rfl) hK hP 1 rfl rfl) rfl rfl hl.1 rfl (lv_room (Nat.le_of_ble_eq_true rfl)) dX11_story_38 ⟨Nat.le_of_ble_eq_true rfl, Nat.le_of_ble_eq_true rfl⟩) hP hD hS hA [1, 2, 3] [0] rfl rfl (by decide) (by decide) (fun u_10 H locs wr_9 hP hD hS => ?_)
        obtain ⟨y0_10, y1_10⟩ := u_10
        have hP : va_P D vwCl [(a 0, .inr (11, [.ref (a 1), .ref (a 2), .ref (a 3), .ref (a 4), .ref (a 5), .ref (a 6), .ref (a 7), .ref (a 8), .ref (a 9), .ref (a 10), .ref (a 11), .ref (a 12), .int ap])), (a 12, .inr (7, [.ref (a 48), .ref (a 49), .ref (a 50)])), (a 48, .inl (cI, 36, .inl y0_10)), (a 49, .inl (cZ, 6, .inl y1_10))] H := hP
        have hD : va_D A [(a 0, .inr (11, [.ref (a 1), .ref (a 2), .ref (a 3), .ref (a 4), .ref (a 5), .ref (a 6), .ref (a 7), .ref (a 8), .ref (a 9), .ref (a 10), .ref (a 11), .ref (a 12), .int ap])), (a 12, .inr (7, [.ref (a 48), .ref (a 49), .ref (a 50)])), (a 48, .inl (cI, 36, .inl y0_10)), (a 49, .inl (cZ, 6, .inl y1_10))] := hD
        refine lv_iconst (v := 1) hx hb dX11_story_41 (by decide) ?_
        exact W.zret (v := 1) hx hb hr (by decide) (fun tt9 ht hW => ⟨⟨(1 : Int32), ((y0_10 : Nat → Int32), (y1_10 : Nat → Int32)), rfl, trivial, ⟨by rw [ht]; exact hP, hD⟩⟩, hS.F ht⟩) hS.2.2 dX11_story_42 hlocks
      · refine lv_iconst (v := 0) hx hb dX11_story_29 (by decide) ?_
        exact W.zret (v := 0) hx hb hr (by decide) (fun tt9 ht hW => ⟨⟨(0 : Int32), ((y0 : Nat → Int32), (y1 : Nat → Int32)), rfl, trivial, ⟨by rw [ht]; exact hP, hD⟩⟩, hS.F ht⟩) hS.2.2 dX11_story_30 hlocks

theorem lf_X11_sign_6 (a : Nat → Nat) (ap : Int32) (y2 : Nat → Int32) (n1 : Int32) (n2 : Int32) (c_2 : (0 : Int32) ≤ n1 ∧ n1 ≤ 5) (tn1 : Nat) (tn1a : 0 ≤ tn1) (tn1b : tn1 ≤ 5) (tn1e : n1 = nI tn1) (c_4 : ((-1) : Int32) ≤ n2 ∧ n2 ≤ 1) : vp_in (nI tn1) 6 := by
  first | exact vp_in_nI (by omega) (by decide) | (unfold vp_in; decide)
set_option maxHeartbeats 4000000 in
set_option maxRecDepth 100000 in
theorem c_X11_sign (l : Launch) (D : va_G) (cI cB cZ cJ : ClassId) (tx : List (ClassId × FieldType)) (a : Nat → Nat) (ap : Int32) (y2 : Nat → Int32) (n1 : Int32) (n2 : Int32) : WrI l D cI cB cZ cJ tx yX11_sign cX11_sign 3 (some .boolean) 1 0 0 [.ref (a 0), .int n1, .int n2] [(a 0, .inr (11, [.ref (a 1), .ref (a 2), .ref (a 3), .ref (a 4), .ref (a 5), .ref (a 6), .ref (a 7), .ref (a 8), .ref (a 9), .ref (a 10), .ref (a 11), .ref (a 12), .int ap])), (a 12, .inr (7, [.ref (a 48), .ref (a 49), .ref (a 50)])), (a 50, .inl (cI, 6, .inl y2))] (fun (r : Int32) (v : (Nat → Int32)) => True) (fun v => [(a 0, .inr (11, [.ref (a 1), .ref (a 2), .ref (a 3), .ref (a 4), .ref (a 5), .ref (a 6), .ref (a 7), .ref (a 8), .ref (a 9), .ref (a 10), .ref (a 11), .ref (a 12), .int ap])), (a 12, .inr (7, [.ref (a 48), .ref (a 49), .ref (a 50)])), (a 50, .inl (cI, 6, .inl v))]) := by
  refine wri_of2 (by decide) (Nat.le_of_ble_eq_true rfl) ?_
  intro p e s m below meth c A ls H locs hC hK hP hD hA hS hl
  obtain ⟨hx, hb, hr, hml, hown, hts, hlocks, hin⟩ := hC
  have hown : s.vm.findClass RX11 = some m.cls := hown
  have hl : lv_has ls 3 [(0, .ref (a 0)), (1, .int n1), (2, .int n2)] := hl
  refine lv_iload_n hx hb dX11_sign_0 rfl (lv_at hl 1 rfl) ?_
  refine lv_iconst (v := 0) hx hb dX11_sign_1 (by decide) ?_
  refine lv_iconst (v := 5) hx hb dX11_sign_2 (by decide) ?_
  refine eRi (va_runS (As := [.int n1, .int 0, .int 5]) (rest := []) ⟨hx, hb, hml, hown, hts⟩ (c_X11_within l D cI cB cZ cJ tx n1 0 5 H.size) (zS hts k_527 v_X11_within ⟨Nat.le_of_ble_eq_true rfl, Nat.le_of_ble_eq_true rfl⟩) (px0 hK) rfl rfl hl.1 rfl (lv_room (Nat.le_of_ble_eq_true rfl)) dX11_sign_3 ⟨Nat.le_of_ble_eq_true rfl, Nat.le_of_ble_eq_true rfl⟩) hP hS hA (fun r_1 H locs wr_1 hP hS => ?_)
  subst wr_1
  refine lv_bi_eq (tgt := 18) hx hb dX11_sign_6 (by decide) (fun c_2 => ?_) (fun c_2 => ?_)
  · refine lv_iconst (v := 0) hx hb dX11_sign_18 (by decide) ?_
    exact W.zret (v := 0) hx hb hr (by decide) (fun tt9 ht hW => ⟨⟨(0 : Int32), ((y2 : Nat → Int32)), rfl, trivial, ⟨by rw [ht]; exact hP, hD⟩⟩, hS.F ht⟩) hS.2.2 dX11_sign_19 hlocks
  · obtain ⟨tn1, tn1a, tn1b, tn1e⟩ := of_rng 0 5 rfl rfl c_2
    subst tn1e
    refine lv_iload_n hx hb dX11_sign_9 rfl (lv_at hl 2 rfl) ?_
    refine lv_iconst (v := (-1)) hx hb dX11_sign_10 (by decide) ?_
    refine lv_iconst (v := 1) hx hb dX11_sign_11 (by decide) ?_
    refine eRi (va_runS (As := [.int n2, .int (-1), .int 1]) (rest := []) ⟨hx, hb, hml, hown, hts⟩ (c_X11_within l D cI cB cZ cJ tx n2 (-1) 1 H.size) (zS hts k_527 v_X11_within ⟨Nat.le_of_ble_eq_true rfl, Nat.le_of_ble_eq_true rfl⟩) (px0 hK) rfl rfl hl.1 rfl (lv_room (Nat.le_of_ble_eq_true rfl)) dX11_sign_12 ⟨Nat.le_of_ble_eq_true rfl, Nat.le_of_ble_eq_true rfl⟩) hP hS hA (fun r_3 H locs wr_3 hP hS => ?_)
    subst wr_3
    refine lv_bi_ne (tgt := 20) hx hb dX11_sign_15 (by decide) (fun c_4 => ?_) (fun c_4 => ?_)
    · refine lv_aload_n hx hb dX11_sign_20 rfl (lv_at hl 0 rfl) ?_
      refine va_get (D := D) (ci := 11) (v := .ref (a 12)) (C := RX11) (T := TX11) (N := 13) hx hb hts inT_X11 hown hK.1 hP 0 rfl rfl 11 (by decide) (hts _ k_494) (fun _ h9 => h9) rfl dX11_sign_21 ?_
      refine va_getN (D := D) (ci := 7) (v := .ref (a 50)) (C := RX7) (T := TX7) (N := 3) hx hb hts inT_X7 hown hK.1 hP 1 rfl rfl 2 (by decide) (va_Nw.use rfl (hK.2.2.1 _ n_475)) (fun _ h9 => h9) rfl dX11_sign_24 ?_
      refine lv_iload_n hx hb dX11_sign_27 rfl (lv_at hl 1 rfl) ?_
      refine lv_iload_n hx hb dX11_sign_28 rfl (lv_at hl 2 rfl) ?_
      refine st_i hx hb hK hP hD hS 2 rfl (lf_X11_sign_6 a ap y2 (nI tn1) n2 c_2 tn1 tn1a tn1b rfl c_4) dX11_sign_29 (fun f_5 H locs hP hD hS => ?_)
      have hP : va_P D vwCl [(a 0, .inr (11, [.ref (a 1), .ref (a 2), .ref (a 3), .ref (a 4), .ref (a 5), .ref (a 6), .ref (a 7), .ref (a 8), .ref (a 9), .ref (a 10), .ref (a 11), .ref (a 12), .int ap])), (a 12, .inr (7, [.ref (a 48), .ref (a 49), .ref (a 50)])), (a 50, .inl (cI, 6, .inl f_5))] H := hP
      have hD : va_D A [(a 0, .inr (11, [.ref (a 1), .ref (a 2), .ref (a 3), .ref (a 4), .ref (a 5), .ref (a 6), .ref (a 7), .ref (a 8), .ref (a 9), .ref (a 10), .ref (a 11), .ref (a 12), .int ap])), (a 12, .inr (7, [.ref (a 48), .ref (a 49), .ref (a 50)])), (a 50, .inl (cI, 6, .inl f_5))] := hD
      refine lv_iconst (v := 1) hx hb dX11_sign_30 (by decide) ?_
      exact W.zret (v := 1) hx hb hr (by decide) (fun tt9 ht hW => ⟨⟨(1 : Int32), ((f_5 : Nat → Int32)), rfl, trivial, ⟨by rw [ht]; exact hP, hD⟩⟩, hS.F ht⟩) hS.2.2 dX11_sign_31 hlocks
    · refine lv_iconst (v := 0) hx hb dX11_sign_18 (by decide) ?_
      exact W.zret (v := 0) hx hb hr (by decide) (fun tt9 ht hW => ⟨⟨(0 : Int32), ((y2 : Nat → Int32)), rfl, trivial, ⟨by rw [ht]; exact hP, hD⟩⟩, hS.F ht⟩) hS.2.2 dX11_sign_19 hlocks

theorem lf_X11_thole_3 (a : Nat → Nat) (ap : Int32) (sn : Nat) (sk : Nat) (scu : Int32) (sch : Int32) (ot : Nat → Int32) (n1 : Int32) (n2 : Int32) (n3 : Int32) (hsn : sn ≤ 24) (hsk : sk ≤ 8) (c_2 : (0 : Int32) ≤ n1 ∧ n1 ≤ nI sn - 1) : sn < 2 ^ 31 := by
  omega
theorem lf_X11_thole_8 (a : Nat → Nat) (ap : Int32) (sn : Nat) (sk : Nat) (scu : Int32) (sch : Int32) (ot : Nat → Int32) (n1 : Int32) (n2 : Int32) (n3 : Int32) (hsn : sn ≤ 24) (hsk : sk ≤ 8) (c_2 : (0 : Int32) ≤ n1 ∧ n1 ≤ nI sn - 1) (tn1 : Nat) (tn1a : tn1 < sn) (tn1e : n1 = nI tn1) (c_5 : (0 : Int32) ≤ n2 ∧ n2 ≤ 1) (tn2 : Nat) (tn2a : 0 ≤ tn2) (tn2b : tn2 ≤ 1) (tn2e : n2 = nI tn2) (c_7 : ((-1) : Int32) ≤ n3 ∧ n3 ≤ 1) : tn1 < 24 := by
  first | assumption | omega | decide
theorem lf_X11_thole_9 (a : Nat → Nat) (ap : Int32) (sn : Nat) (sk : Nat) (scu : Int32) (sch : Int32) (ot : Nat → Int32) (n1 : Int32) (n2 : Int32) (n3 : Int32) (hsn : sn ≤ 24) (hsk : sk ≤ 8) (c_2 : (0 : Int32) ≤ n1 ∧ n1 ≤ nI sn - 1) (tn1 : Nat) (tn1a : tn1 < sn) (tn1e : n1 = nI tn1) (c_5 : (0 : Int32) ≤ n2 ∧ n2 ≤ 1) (tn2 : Nat) (tn2a : 0 ≤ tn2) (tn2b : tn2 ≤ 1) (tn2e : n2 = nI tn2) (c_7 : ((-1) : Int32) ≤ n3 ∧ n3 ≤ 1) : tn2 < 2 := by
  first | assumption | omega | decide
set_option maxHeartbeats 4000000 in
set_option maxRecDepth 100000 in
theorem c_X11_thole (l : Launch) (D : va_G) (cI cB cZ cJ : ClassId) (tx : List (ClassId × FieldType)) (a : Nat → Nat) (ap : Int32) (sn : Nat) (sk : Nat) (scu : Int32) (sch : Int32) (ot : Nat → Int32) (n1 : Int32) (n2 : Int32) (n3 : Int32) (hsn : sn ≤ 24) (hsk : sk ≤ 8) : WrI l D cI cB cZ cJ tx yX11_thole cX11_thole 4 (some .boolean) 2 0 0 [.ref (a 0), .int n1, .int n2, .int n3] [(a 0, .inr (11, [.ref (a 1), .ref (a 2), .ref (a 3), .ref (a 4), .ref (a 5), .ref (a 6), .ref (a 7), .ref (a 8), .ref (a 9), .ref (a 10), .ref (a 11), .ref (a 12), .int ap])), (a 5, .inr (4, [.ref (a 18), .ref (a 19), .ref (a 20), .ref (a 21), .ref (a 22), .ref (a 23), .ref (a 24), .int (nI sn), .int (nI sk), .int scu, .int sch])), (a 10, .inr (10, [.ref (a 5), .ref (a 46)])), (a 46, .inl (cI, 48, .inl ot))] (fun (r : Int32) (v : (Nat → Int32)) => True) (fun v => [(a 0, .inr (11, [.ref (a 1), .ref (a 2), .ref (a 3), .ref (a 4), .ref (a 5), .ref (a 6), .ref (a 7), .ref (a 8), .ref (a 9), .ref (a 10), .ref (a 11), .ref (a 12), .int ap])), (a 5, .inr (4, [.ref (a 18), .ref (a 19), .ref (a 20), .ref (a 21), .ref (a 22), .ref (a 23), .ref (a 24), .int (nI sn), .int (nI sk), .int scu, .int sch])), (a 10, .inr (10, [.ref (a 5), .ref (a 46)])), (a 46, .inl (cI, 48, .inl v))]) := by
  refine wri_of2 (by decide) (Nat.le_of_ble_eq_true rfl) ?_
  intro p e s m below meth c A ls H locs hC hK hP hD hA hS hl
  obtain ⟨hx, hb, hr, hml, hown, hts, hlocks, hin⟩ := hC
  have hown : s.vm.findClass RX11 = some m.cls := hown
  have hl : lv_has ls 4 [(0, .ref (a 0)), (1, .int n1), (2, .int n2), (3, .int n3)] := hl
  refine lv_iload_n hx hb dX11_thole_0 rfl (lv_at hl 1 rfl) ?_
  refine lv_iconst (v := 0) hx hb dX11_thole_1 (by decide) ?_
  refine lv_aload_n hx hb dX11_thole_2 rfl (lv_at hl 0 rfl) ?_
  refine va_get (D := D) (ci := 11) (v := .ref (a 5)) (C := RX11) (T := TX11) (N := 13) hx hb hts inT_X11 hown hK.1 hP 0 rfl rfl 4 (by decide) (hts _ k_487) (fun _ h9 => h9) rfl dX11_thole_3 ?_
  refine va_getN (D := D) (ci := 4) (v := .int (nI sn)) (C := RX4) (T := TX4) (N := 11) hx hb hts inT_X4 hown hK.1 hP 1 rfl rfl 7 (by decide) (va_Nw.use rfl (hK.2.2.1 _ n_254)) (fun _ h9 => h9) rfl dX11_thole_6 ?_
  refine lv_iconst (v := 1) hx hb dX11_thole_9 (by decide) ?_
  refine lv_isub hx hb dX11_thole_10 ?_
  refine eRi (va_runS (As := [.int n1, .int 0, .int (nI sn - 1)]) (rest := []) ⟨hx, hb, hml, hown, hts⟩ (c_X11_within l D cI cB cZ cJ tx n1 0 (nI sn - 1) H.size) (zS hts k_527 v_X11_within ⟨Nat.le_of_ble_eq_true rfl, Nat.le_of_ble_eq_true rfl⟩) (px0 hK) rfl rfl hl.1 rfl (lv_room (Nat.le_of_ble_eq_true rfl)) dX11_thole_11 ⟨Nat.le_of_ble_eq_true rfl, Nat.le_of_ble_eq_true rfl⟩) hP hS hA (fun r_1 H locs wr_1 hP hS => ?_)
  subst wr_1
  refine lv_bi_eq (tgt := 35) hx hb dX11_thole_14 (by decide) (fun c_2 => ?_) (fun c_2 => ?_)
  · refine lv_iconst (v := 0) hx hb dX11_thole_35 (by decide) ?_
    exact W.zret (v := 0) hx hb hr (by decide) (fun tt9 ht hW => ⟨⟨(0 : Int32), ((ot : Nat → Int32)), rfl, trivial, ⟨by rw [ht]; exact hP, hD⟩⟩, hS.F ht⟩) hS.2.2 dX11_thole_36 hlocks
  · obtain ⟨tn1, tn1a, tn1e⟩ := of_within (lf_X11_thole_3 a ap sn sk scu sch ot n1 n2 n3 hsn hsk c_2) c_2
    subst tn1e
    refine lv_iload_n hx hb dX11_thole_17 rfl (lv_at hl 2 rfl) ?_
    refine lv_iconst (v := 0) hx hb dX11_thole_18 (by decide) ?_
    refine lv_iconst (v := 1) hx hb dX11_thole_19 (by decide) ?_
    refine eRi (va_runS (As := [.int n2, .int 0, .int 1]) (rest := []) ⟨hx, hb, hml, hown, hts⟩ (c_X11_within l D cI cB cZ cJ tx n2 0 1 H.size) (zS hts k_527 v_X11_within ⟨Nat.le_of_ble_eq_true rfl, Nat.le_of_ble_eq_true rfl⟩) (px0 hK) rfl rfl hl.1 rfl (lv_room (Nat.le_of_ble_eq_true rfl)) dX11_thole_20 ⟨Nat.le_of_ble_eq_true rfl, Nat.le_of_ble_eq_true rfl⟩) hP hS hA (fun r_4 H locs wr_4 hP hS => ?_)
    subst wr_4
    refine lv_bi_eq (tgt := 35) hx hb dX11_thole_23 (by decide) (fun c_5 => ?_) (fun c_5 => ?_)
    · refine lv_iconst (v := 0) hx hb dX11_thole_35 (by decide) ?_
      exact W.zret (v := 0) hx hb hr (by decide) (fun tt9 ht hW => ⟨⟨(0 : Int32), ((ot : Nat → Int32)), rfl, trivial, ⟨by rw [ht]; exact hP, hD⟩⟩, hS.F ht⟩) hS.2.2 dX11_thole_36 hlocks
    · obtain ⟨tn2, tn2a, tn2b, tn2e⟩ := of_rng 0 1 rfl rfl c_5
      subst tn2e
      refine lv_iload_n hx hb dX11_thole_26 rfl (lv_at hl 3 rfl) ?_
      refine lv_iconst (v := (-1)) hx hb dX11_thole_27 (by decide) ?_
      refine lv_iconst (v := 1) hx hb dX11_thole_28 (by decide) ?_
      refine eRi (va_runS (As := [.int n3, .int (-1), .int 1]) (rest := []) ⟨hx, hb, hml, hown, hts⟩ (c_X11_within l D cI cB cZ cJ tx n3 (-1) 1 H.size) (zS hts k_527 v_X11_within ⟨Nat.le_of_ble_eq_true rfl, Nat.le_of_ble_eq_true rfl⟩) (px0 hK) rfl rfl hl.1 rfl (lv_room (Nat.le_of_ble_eq_true rfl)) dX11_thole_29 ⟨Nat.le_of_ble_eq_true rfl, Nat.le_of_ble_eq_true rfl⟩) hP hS hA (fun r_6 H locs wr_6 hP hS => ?_)
      subst wr_6
      refine lv_bi_ne (tgt := 37) hx hb dX11_thole_32 (by decide) (fun c_7 => ?_) (fun c_7 => ?_)
      · refine lv_aload_n hx hb dX11_thole_37 rfl (lv_at hl 0 rfl) ?_
        refine va_get (D := D) (ci := 11) (v := .ref (a 10)) (C := RX11) (T := TX11) (N := 13) hx hb hts inT_X11 hown hK.1 hP 0 rfl rfl 9 (by decide) (hts _ k_492) (fun _ h9 => h9) rfl dX11_thole_38 ?_
        refine lv_iload_n hx hb dX11_thole_41 rfl (lv_at hl 1 rfl) ?_
        refine lv_iload_n hx hb dX11_thole_42 rfl (lv_at hl 2 rfl) ?_
        refine lv_iload_n hx hb dX11_thole_43 rfl (lv_at hl 3 rfl) ?_
        refine eWv (wr := [(a 0, .inr (11, [.ref (a 1), .ref (a 2), .ref (a 3), .ref (a 4), .ref (a 5), .ref (a 6), .ref (a 7), .ref (a 8), .ref (a 9), .ref (a 10), .ref (a 11), .ref (a 12), .int ap])), (a 5, .inr (4, [.ref (a 18), .ref (a 19), .ref (a 20), .ref (a 21), .ref (a 22), .ref (a 23), .ref (a 24), .int (nI sn), .int (nI sk), .int scu, .int sch]))]) (va_runV (As := [.int (nI tn1), .int (nI tn2), .int n3]) (rest := []) ⟨hx, hb, hml, hown, hts⟩ (c_X10_tell l D cI cB cZ cJ tx a ot tn1 tn2 n3 (lf_X11_thole_8 a ap sn sk scu sch ot (nI tn1) (nI tn2) n3 hsn hsk c_2 tn1 tn1a rfl c_5 tn2 tn2a tn2b rfl c_7) (lf_X11_thole_9 a ap sn sk scu sch ot (nI tn1) (nI tn2) n3 hsn hsk c_2 tn1 tn1a rfl c_5 tn2 tn2a tn2b rfl c_7) H.size) (zV hts k_1113 v_X10_tell ⟨Nat.le_of_ble_eq_true rfl, Nat.le_of_ble_eq_true rfl⟩) (pV (pxS hK hP hD [2, 3] (by decide) rfl) hK hP 2 rfl rfl) rfl rfl hl.1 rfl (lv_room (Nat.le_of_ble_eq_true rfl)) dX11_thole_44 ⟨Nat.le_of_ble_eq_true rfl, Nat.le_of_ble_eq_true rfl⟩) hP hD hS hA [2, 3] [0, 1] rfl rfl (by decide) (by decide) (fun u_11 H locs wr_10 hP hD hS => ?_)
        obtain ⟨ot_11, rfl⟩ : ∃ z, z = u_11 := ⟨_, rfl⟩
        have hP : va_P D vwCl [(a 0, .inr (11, [.ref (a 1), .ref (a 2), .ref (a 3), .ref (a 4), .ref (a 5), .ref (a 6), .ref (a 7), .ref (a 8), .ref (a 9), .ref (a 10), .ref (a 11), .ref (a 12), .int ap])), (a 5, .inr (4, [.ref (a 18), .ref (a 19), .ref (a 20), .ref (a 21), .ref (a 22), .ref (a 23), .ref (a 24), .int (nI sn), .int (nI sk), .int scu, .int sch])), (a 10, .inr (10, [.ref (a 5), .ref (a 46)])), (a 46, .inl (cI, 48, .inl ot_11))] H := hP
        have hD : va_D A [(a 0, .inr (11, [.ref (a 1), .ref (a 2), .ref (a 3), .ref (a 4), .ref (a 5), .ref (a 6), .ref (a 7), .ref (a 8), .ref (a 9), .ref (a 10), .ref (a 11), .ref (a 12), .int ap])), (a 5, .inr (4, [.ref (a 18), .ref (a 19), .ref (a 20), .ref (a 21), .ref (a 22), .ref (a 23), .ref (a 24), .int (nI sn), .int (nI sk), .int scu, .int sch])), (a 10, .inr (10, [.ref (a 5), .ref (a 46)])), (a 46, .inl (cI, 48, .inl ot_11))] := hD
        refine lv_iconst (v := 1) hx hb dX11_thole_47 (by decide) ?_
        exact W.zret (v := 1) hx hb hr (by decide) (fun tt9 ht hW => ⟨⟨(1 : Int32), ((ot_11 : Nat → Int32)), rfl, trivial, ⟨by rw [ht]; exact hP, hD⟩⟩, hS.F ht⟩) hS.2.2 dX11_thole_48 hlocks
      · refine lv_iconst (v := 0) hx hb dX11_thole_35 (by decide) ?_
        exact W.zret (v := 0) hx hb hr (by decide) (fun tt9 ht hW => ⟨⟨(0 : Int32), ((ot : Nat → Int32)), rfl, trivial, ⟨by rw [ht]; exact hP, hD⟩⟩, hS.F ht⟩) hS.2.2 dX11_thole_36 hlocks

theorem lf_X11_rivet_1 (a : Nat → Nat) (ap : Int32) (sn : Nat) (sk : Nat) (scu : Int32) (sch : Int32) (g0 : Nat → Int32) (g1 : Nat → Int32) (g2 : Nat → Int32) (g3 : Nat → Int32) (n1 : Int32) (n2 : Int32) (n3 : Int32) (n4 : Int32) (hsn : sn ≤ 24) (hsk : sk ≤ 8) : sn ≤ 24 := by
  first | assumption | omega | decide
theorem lf_X11_rivet_2 (a : Nat → Nat) (ap : Int32) (sn : Nat) (sk : Nat) (scu : Int32) (sch : Int32) (g0 : Nat → Int32) (g1 : Nat → Int32) (g2 : Nat → Int32) (g3 : Nat → Int32) (n1 : Int32) (n2 : Int32) (n3 : Int32) (n4 : Int32) (hsn : sn ≤ 24) (hsk : sk ≤ 8) : sk ≤ 8 := by
  first | assumption | omega | decide
theorem lf_X11_rivet_4 (a : Nat → Nat) (ap : Int32) (sn : Nat) (sk : Nat) (scu : Int32) (sch : Int32) (g0 : Nat → Int32) (g1 : Nat → Int32) (g2 : Nat → Int32) (g3 : Nat → Int32) (n1 : Int32) (n2 : Int32) (n3 : Int32) (n4 : Int32) (hsn : sn ≤ 24) (hsk : sk ≤ 8) (ff3 : Nat) (ss3 : Nat) (dd3 : Nat) (hff3 : ff3 < sn) (hss3 : ss3 < sk) (hdd3 : dd3 < 2) : 0 ≤ nI ((ff3 * 8 + ss3) * 2 + dd3) := by
  first | exact nI_pos (by omega) | exact nI_pos' (by omega)
theorem lf_X11_rivet_6 (a : Nat → Nat) (ap : Int32) (sn : Nat) (sk : Nat) (scu : Int32) (sch : Int32) (g0 : Nat → Int32) (g1 : Nat → Int32) (g2 : Nat → Int32) (g3 : Nat → Int32) (n1 : Int32) (n2 : Int32) (n3 : Int32) (n4 : Int32) (hsn : sn ≤ 24) (hsk : sk ≤ 8) (ff3 : Nat) (ss3 : Nat) (dd3 : Nat) (hff3 : ff3 < sn) (hss3 : ss3 < sk) (hdd3 : dd3 < 2) (c_5 : n4 = 0) : vp_in (nI ((ff3 * 8 + ss3) * 2 + dd3)) 384 := by
  first | exact vp_in_nI (by omega) (by decide) | (unfold vp_in; decide)
theorem lf_X11_rivet_9 (a : Nat → Nat) (ap : Int32) (sn : Nat) (sk : Nat) (scu : Int32) (sch : Int32) (g0 : Nat → Int32) (g1 : Nat → Int32) (g2 : Nat → Int32) (g3 : Nat → Int32) (n1 : Int32) (n2 : Int32) (n3 : Int32) (n4 : Int32) (hsn : sn ≤ 24) (hsk : sk ≤ 8) (ff3 : Nat) (ss3 : Nat) (dd3 : Nat) (hff3 : ff3 < sn) (hss3 : ss3 < sk) (hdd3 : dd3 < 2) (c_5 : ¬ n4 = 0) (c_8 : n4 = 1) : vp_in (nI ((ff3 * 8 + ss3) * 2 + dd3)) 384 := by
  first | exact vp_in_nI (by omega) (by decide) | (unfold vp_in; decide)
theorem lf_X11_rivet_12 (a : Nat → Nat) (ap : Int32) (sn : Nat) (sk : Nat) (scu : Int32) (sch : Int32) (g0 : Nat → Int32) (g1 : Nat → Int32) (g2 : Nat → Int32) (g3 : Nat → Int32) (n1 : Int32) (n2 : Int32) (n3 : Int32) (n4 : Int32) (hsn : sn ≤ 24) (hsk : sk ≤ 8) (ff3 : Nat) (ss3 : Nat) (dd3 : Nat) (hff3 : ff3 < sn) (hss3 : ss3 < sk) (hdd3 : dd3 < 2) (c_5 : ¬ n4 = 0) (c_8 : ¬ n4 = 1) (c_11 : n4 = 2) : vp_in (nI ((ff3 * 8 + ss3) * 2 + dd3)) 384 := by
  first | exact vp_in_nI (by omega) (by decide) | (unfold vp_in; decide)
theorem lf_X11_rivet_16 (a : Nat → Nat) (ap : Int32) (sn : Nat) (sk : Nat) (scu : Int32) (sch : Int32) (g0 : Nat → Int32) (g1 : Nat → Int32) (g2 : Nat → Int32) (g3 : Nat → Int32) (n1 : Int32) (n2 : Int32) (n3 : Int32) (n4 : Int32) (hsn : sn ≤ 24) (hsk : sk ≤ 8) (ff3 : Nat) (ss3 : Nat) (dd3 : Nat) (hff3 : ff3 < sn) (hss3 : ss3 < sk) (hdd3 : dd3 < 2) (c_5 : ¬ n4 = 0) (c_8 : ¬ n4 = 1) (c_11 : ¬ n4 = 2) (c_15 : n4 = 3) : vp_in (nI ((ff3 * 8 + ss3) * 2 + dd3)) 384 := by
  first | exact vp_in_nI (by omega) (by decide) | (unfold vp_in; decide)
theorem lf_X11_rivet_19 (a : Nat → Nat) (ap : Int32) (sn : Nat) (sk : Nat) (scu : Int32) (sch : Int32) (g0 : Nat → Int32) (g1 : Nat → Int32) (g2 : Nat → Int32) (g3 : Nat → Int32) (n1 : Int32) (n2 : Int32) (n3 : Int32) (n4 : Int32) (hsn : sn ≤ 24) (hsk : sk ≤ 8) (ff3 : Nat) (ss3 : Nat) (dd3 : Nat) (hff3 : ff3 < sn) (hss3 : ss3 < sk) (hdd3 : dd3 < 2) (c_5 : ¬ n4 = 0) (c_8 : ¬ n4 = 1) (c_11 : ¬ n4 = 2) (c_15 : ¬ n4 = 3) (c_18 : n4 = 4) : ((ff3 * 8 + ss3) * 2 + dd3) < 384 := by
  first | assumption | omega | decide
theorem lf_X11_rivet_22 (a : Nat → Nat) (ap : Int32) (sn : Nat) (sk : Nat) (scu : Int32) (sch : Int32) (g0 : Nat → Int32) (g1 : Nat → Int32) (g2 : Nat → Int32) (g3 : Nat → Int32) (n1 : Int32) (n2 : Int32) (n3 : Int32) (n4 : Int32) (hsn : sn ≤ 24) (hsk : sk ≤ 8) (ff3 : Nat) (ss3 : Nat) (dd3 : Nat) (hff3 : ff3 < sn) (hss3 : ss3 < sk) (hdd3 : dd3 < 2) (c_5 : ¬ n4 = 0) (c_8 : ¬ n4 = 1) (c_11 : ¬ n4 = 2) (c_15 : ¬ n4 = 3) (c_18 : ¬ n4 = 4) : n4.toInt < 0 ∨ 4 < n4.toInt := by
  have e : ∀ k : Int32, ¬ n4 = k → n4.toInt ≠ k.toInt := fun k h q => h (Int32.toInt_inj.mp q)
  have e0 := e 0 ‹¬ n4 = 0›
  have z0 : (0 : Int32).toInt = 0 := by decide
  have e1 := e 1 ‹¬ n4 = 1›
  have z1 : (1 : Int32).toInt = 1 := by decide
  have e2 := e 2 ‹¬ n4 = 2›
  have z2 : (2 : Int32).toInt = 2 := by decide
  have e3 := e 3 ‹¬ n4 = 3›
  have z3 : (3 : Int32).toInt = 3 := by decide
  have e4 := e 4 ‹¬ n4 = 4›
  have z4 : (4 : Int32).toInt = 4 := by decide
  omega
set_option maxHeartbeats 4000000 in
set_option maxRecDepth 100000 in
theorem c_X11_rivet (l : Launch) (D : va_G) (cI cB cZ cJ : ClassId) (tx : List (ClassId × FieldType)) (a : Nat → Nat) (ap : Int32) (sn : Nat) (sk : Nat) (scu : Int32) (sch : Int32) (g0 : Nat → Int32) (g1 : Nat → Int32) (g2 : Nat → Int32) (g3 : Nat → Int32) (n1 : Int32) (n2 : Int32) (n3 : Int32) (n4 : Int32) (hsn : sn ≤ 24) (hsk : sk ≤ 8) : RdI l D cI cB cZ cJ tx yX11_rivet cX11_rivet 6 (some .int) 2 [.ref (a 0), .int n1, .int n2, .int n3, .int n4] [(a 0, .inr (11, [.ref (a 1), .ref (a 2), .ref (a 3), .ref (a 4), .ref (a 5), .ref (a 6), .ref (a 7), .ref (a 8), .ref (a 9), .ref (a 10), .ref (a 11), .ref (a 12), .int ap])), (a 5, .inr (4, [.ref (a 18), .ref (a 19), .ref (a 20), .ref (a 21), .ref (a 22), .ref (a 23), .ref (a 24), .int (nI sn), .int (nI sk), .int scu, .int sch])), (a 18, .inl (cI, 384, .inl g0)), (a 19, .inl (cI, 384, .inl g1)), (a 20, .inl (cI, 384, .inl g2)), (a 21, .inl (cZ, 384, .inl g3))] (fun r => True) := by
  refine rdi_of2 (by decide) (Nat.le_of_ble_eq_true rfl) ?_
  intro p e s m below meth c A ls H locs hC hK hP hD hA hS hl
  obtain ⟨hx, hb, hr, hml, hown, hts, hlocks, hin⟩ := hC
  have hown : s.vm.findClass RX11 = some m.cls := hown
  have hl : lv_has ls 6 [(0, .ref (a 0)), (1, .int n1), (2, .int n2), (3, .int n3), (4, .int n4)] := hl
  refine lv_aload_n hx hb dX11_rivet_0 rfl (lv_at hl 0 rfl) ?_
  refine va_get (D := D) (ci := 11) (v := .ref (a 5)) (C := RX11) (T := TX11) (N := 13) hx hb hts inT_X11 hown hK.1 hP 0 rfl rfl 4 (by decide) (hts _ k_487) (fun _ h9 => h9) rfl dX11_rivet_1 ?_
  refine lv_iload_n hx hb dX11_rivet_4 rfl (lv_at hl 1 rfl) ?_
  refine lv_iload_n hx hb dX11_rivet_5 rfl (lv_at hl 2 rfl) ?_
  refine lv_iload_n hx hb dX11_rivet_6 rfl (lv_at hl 3 rfl) ?_
  refine eRi (va_runV (As := [.int n1, .int n2, .int n3]) (rest := []) ⟨hx, hb, hml, hown, hts⟩ (c_X4_rivetAt_a l D cI cB cZ cJ tx a sn sk scu sch n1 n2 n3 (lf_X11_rivet_1 a ap sn sk scu sch g0 g1 g2 g3 n1 n2 n3 n4 hsn hsk) (lf_X11_rivet_2 a ap sn sk scu sch g0 g1 g2 g3 n1 n2 n3 n4 hsn hsk) H.size) (zV hts k_850 v_X4_rivetAt ⟨Nat.le_of_ble_eq_true rfl, Nat.le_of_ble_eq_true rfl⟩) (pV (px1 hK hP 1 rfl) hK hP 1 rfl rfl) rfl rfl hl.1 rfl (lv_room (Nat.le_of_ble_eq_true rfl)) dX11_rivet_7 ⟨Nat.le_of_ble_eq_true rfl, Nat.le_of_ble_eq_true rfl⟩) hP hS hA (fun r_3 H locs wr_3 hP hS => ?_)
  rcases wr_3 with rfl | ⟨ff3, ss3, dd3, hff3, hss3, hdd3, rfl, rfl, rfl, rfl⟩
  · refine lv_istore (lv' := [(5, .int (-1)), (0, .ref (a 0)), (1, .int n1), (2, .int n2), (3, .int n3), (4, .int n4)]) hx hb dX11_rivet_10 hl (by decide) rfl (fun ls hl => ?_)
    refine lv_iload hx hb dX11_rivet_12 (lv_at hl 0 rfl) ?_
    refine lv_if_ge (tgt := 21) hx hb dX11_rivet_14 (by decide) (fun c => absurd c (by decide)) (fun _ => ?_)
    refine lv_sipush (v := (-10000)) hx hb dX11_rivet_17 (by decide) ?_
    exact W.iret (v := (-10000)) hx hb hr (fun tt9 ht hW => ⟨⟨((-10000) : Int32), (), rfl, trivial, trivial⟩, hS.F ht⟩) hS.2.2 dX11_rivet_20 hlocks
  · refine lv_istore (lv' := [(5, .int (nI ((ff3 * 8 + ss3) * 2 + dd3))), (0, .ref (a 0)), (1, .int (nI ff3)), (2, .int (nI ss3)), (3, .int (nI dd3)), (4, .int n4)]) hx hb dX11_rivet_10 hl (by decide) rfl (fun ls hl => ?_)
    refine lv_iload hx hb dX11_rivet_12 (lv_at hl 0 rfl) ?_
    refine lv_if_ge (tgt := 21) hx hb dX11_rivet_14 (by decide) (fun _ => ?_) (fun c => absurd (lf_X11_rivet_4 a ap sn sk scu sch g0 g1 g2 g3 (nI ff3) (nI ss3) (nI dd3) n4 hsn hsk ff3 ss3 dd3 hff3 hss3 hdd3) c)
    refine lv_iload hx hb dX11_rivet_21 (lv_at hl 5 rfl) ?_
    by_cases c_5 : n4 = 0
    · subst c_5
      refine lv_tableIn (off := 33) (tgt := 56) hx hb dX11_rivet_23 (by decide) (by decide) rfl (by decide) ?_
      refine lv_aload_n hx hb dX11_rivet_56 rfl (lv_at hl 1 rfl) ?_
      refine va_get (D := D) (ci := 11) (v := .ref (a 5)) (C := RX11) (T := TX11) (N := 13) hx hb hts inT_X11 hown hK.1 hP 0 rfl rfl 4 (by decide) (hts _ k_487) (fun _ h9 => h9) rfl dX11_rivet_57 ?_
      refine va_getN (D := D) (ci := 4) (v := .ref (a 18)) (C := RX4) (T := TX4) (N := 11) hx hb hts inT_X4 hown hK.1 hP 1 rfl rfl 0 (by decide) (va_Nw.use rfl (hK.2.2.1 _ n_234)) (fun _ h9 => h9) rfl dX11_rivet_60 ?_
      refine lv_iload hx hb dX11_rivet_63 (lv_at hl 0 rfl) ?_
      refine ld_i hx hb hK hP 2 rfl (lf_X11_rivet_6 a ap sn sk scu sch g0 g1 g2 g3 (nI ff3) (nI ss3) (nI dd3) 0 hsn hsk ff3 ss3 dd3 hff3 hss3 hdd3 rfl) dX11_rivet_65 (fun x_7 => ?_)
      exact W.iret (v := x_7) hx hb hr (fun tt9 ht hW => ⟨⟨(x_7 : Int32), (), rfl, trivial, trivial⟩, hS.F ht⟩) hS.2.2 dX11_rivet_66 hlocks
    by_cases c_8 : n4 = 1
    · subst c_8
      refine lv_tableIn (off := 44) (tgt := 67) hx hb dX11_rivet_23 (by decide) (by decide) rfl (by decide) ?_
      refine lv_aload_n hx hb dX11_rivet_67 rfl (lv_at hl 1 rfl) ?_
      refine va_get (D := D) (ci := 11) (v := .ref (a 5)) (C := RX11) (T := TX11) (N := 13) hx hb hts inT_X11 hown hK.1 hP 0 rfl rfl 4 (by decide) (hts _ k_487) (fun _ h9 => h9) rfl dX11_rivet_68 ?_
      refine va_getN (D := D) (ci := 4) (v := .ref (a 19)) (C := RX4) (T := TX4) (N := 11) hx hb hts inT_X4 hown hK.1 hP 1 rfl rfl 1 (by decide) (va_Nw.use rfl (hK.2.2.1 _ n_237)) (fun _ h9 => h9) rfl dX11_rivet_71 ?_
      refine lv_iload hx hb dX11_rivet_74 (lv_at hl 0 rfl) ?_
      refine ld_i hx hb hK hP 3 rfl (lf_X11_rivet_9 a ap sn sk scu sch g0 g1 g2 g3 (nI ff3) (nI ss3) (nI dd3) 1 hsn hsk ff3 ss3 dd3 hff3 hss3 hdd3 c_5 rfl) dX11_rivet_76 (fun x_10 => ?_)
      exact W.iret (v := x_10) hx hb hr (fun tt9 ht hW => ⟨⟨(x_10 : Int32), (), rfl, trivial, trivial⟩, hS.F ht⟩) hS.2.2 dX11_rivet_77 hlocks
    by_cases c_11 : n4 = 2
    · subst c_11
      refine lv_tableIn (off := 55) (tgt := 78) hx hb dX11_rivet_23 (by decide) (by decide) rfl (by decide) ?_
      refine lv_aload_n hx hb dX11_rivet_78 rfl (lv_at hl 1 rfl) ?_
      refine va_get (D := D) (ci := 11) (v := .ref (a 5)) (C := RX11) (T := TX11) (N := 13) hx hb hts inT_X11 hown hK.1 hP 0 rfl rfl 4 (by decide) (hts _ k_487) (fun _ h9 => h9) rfl dX11_rivet_79 ?_
      refine va_getN (D := D) (ci := 4) (v := .ref (a 21)) (C := RX4) (T := TX4) (N := 11) hx hb hts inT_X4 hown hK.1 hP 1 rfl rfl 3 (by decide) (va_Nw.use rfl (hK.2.2.1 _ n_242)) (fun _ h9 => h9) rfl dX11_rivet_82 ?_
      refine lv_iload hx hb dX11_rivet_85 (lv_at hl 0 rfl) ?_
      refine ld_z hx hb hK hP 5 rfl (lf_X11_rivet_12 a ap sn sk scu sch g0 g1 g2 g3 (nI ff3) (nI ss3) (nI dd3) 2 hsn hsk ff3 ss3 dd3 hff3 hss3 hdd3 c_5 c_8 rfl) dX11_rivet_87 (fun x_13 => ?_)
      refine lv_if_eq (tgt := 95) hx hb dX11_rivet_88 (by decide) (fun c_14 => ?_) (fun c_14 => ?_)
      · refine lv_iconst (v := 0) hx hb dX11_rivet_95 (by decide) ?_
        exact W.iret (v := 0) hx hb hr (fun tt9 ht hW => ⟨⟨(0 : Int32), (), rfl, trivial, trivial⟩, hS.F ht⟩) hS.2.2 dX11_rivet_96 hlocks
      · refine lv_iconst (v := 1) hx hb dX11_rivet_91 (by decide) ?_
        refine lv_goto (tgt := 96) hx hb dX11_rivet_92 (by decide) ?_
        exact W.iret (v := 1) hx hb hr (fun tt9 ht hW => ⟨⟨(1 : Int32), (), rfl, trivial, trivial⟩, hS.F ht⟩) hS.2.2 dX11_rivet_96 hlocks
    by_cases c_15 : n4 = 3
    · subst c_15
      refine lv_tableIn (off := 74) (tgt := 97) hx hb dX11_rivet_23 (by decide) (by decide) rfl (by decide) ?_
      refine lv_aload_n hx hb dX11_rivet_97 rfl (lv_at hl 1 rfl) ?_
      refine va_get (D := D) (ci := 11) (v := .ref (a 5)) (C := RX11) (T := TX11) (N := 13) hx hb hts inT_X11 hown hK.1 hP 0 rfl rfl 4 (by decide) (hts _ k_487) (fun _ h9 => h9) rfl dX11_rivet_98 ?_
      refine va_getN (D := D) (ci := 4) (v := .ref (a 20)) (C := RX4) (T := TX4) (N := 11) hx hb hts inT_X4 hown hK.1 hP 1 rfl rfl 2 (by decide) (va_Nw.use rfl (hK.2.2.1 _ n_240)) (fun _ h9 => h9) rfl dX11_rivet_101 ?_
      refine lv_iload hx hb dX11_rivet_104 (lv_at hl 0 rfl) ?_
      refine ld_i hx hb hK hP 4 rfl (lf_X11_rivet_16 a ap sn sk scu sch g0 g1 g2 g3 (nI ff3) (nI ss3) (nI dd3) 3 hsn hsk ff3 ss3 dd3 hff3 hss3 hdd3 c_5 c_8 c_11 rfl) dX11_rivet_106 (fun x_17 => ?_)
      exact W.iret (v := x_17) hx hb hr (fun tt9 ht hW => ⟨⟨(x_17 : Int32), (), rfl, trivial, trivial⟩, hS.F ht⟩) hS.2.2 dX11_rivet_107 hlocks
    by_cases c_18 : n4 = 4
    · subst c_18
      refine lv_tableIn (off := 85) (tgt := 108) hx hb dX11_rivet_23 (by decide) (by decide) rfl (by decide) ?_
      refine lv_aload_n hx hb dX11_rivet_108 rfl (lv_at hl 1 rfl) ?_
      refine va_get (D := D) (ci := 11) (v := .ref (a 5)) (C := RX11) (T := TX11) (N := 13) hx hb hts inT_X11 hown hK.1 hP 0 rfl rfl 4 (by decide) (hts _ k_487) (fun _ h9 => h9) rfl dX11_rivet_109 ?_
      refine lv_iload hx hb dX11_rivet_112 (lv_at hl 0 rfl) ?_
      refine lv_iload_n hx hb dX11_rivet_114 rfl (lv_at hl 2 rfl) ?_
      refine eRi (va_runV (As := [.int (nI ((ff3 * 8 + ss3) * 2 + dd3)), .int (nI ff3)]) (rest := []) ⟨hx, hb, hml, hown, hts⟩ (c_X4_isSeen l D cI cB cZ cJ tx a sn sk scu sch g3 ((ff3 * 8 + ss3) * 2 + dd3) (nI ff3) (lf_X11_rivet_19 a ap sn sk scu sch g0 g1 g2 g3 (nI ff3) (nI ss3) (nI dd3) 4 hsn hsk ff3 ss3 dd3 hff3 hss3 hdd3 c_5 c_8 c_11 c_15 rfl) H.size) (zV hts k_867 v_X4_isSeen ⟨Nat.le_of_ble_eq_true rfl, Nat.le_of_ble_eq_true rfl⟩) (pV (pxS hK hP hD [1, 5] (by decide) rfl) hK hP 1 rfl rfl) rfl rfl hl.1 rfl (lv_room (Nat.le_of_ble_eq_true rfl)) dX11_rivet_115 ⟨Nat.le_of_ble_eq_true rfl, Nat.le_of_ble_eq_true rfl⟩) hP hS hA (fun r_20 H locs wr_20 hP hS => ?_)
      refine lv_if_eq (tgt := 125) hx hb dX11_rivet_118 (by decide) (fun c_21 => ?_) (fun c_21 => ?_)
      · refine lv_iconst (v := 0) hx hb dX11_rivet_125 (by decide) ?_
        exact W.iret (v := 0) hx hb hr (fun tt9 ht hW => ⟨⟨(0 : Int32), (), rfl, trivial, trivial⟩, hS.F ht⟩) hS.2.2 dX11_rivet_126 hlocks
      · refine lv_iconst (v := 1) hx hb dX11_rivet_121 (by decide) ?_
        refine lv_goto (tgt := 126) hx hb dX11_rivet_122 (by decide) ?_
        exact W.iret (v := 1) hx hb hr (fun tt9 ht hW => ⟨⟨(1 : Int32), (), rfl, trivial, trivial⟩, hS.F ht⟩) hS.2.2 dX11_rivet_126 hlocks
    refine lv_tableOut (tgt := 127) hx hb dX11_rivet_23 (lf_X11_rivet_22 a ap sn sk scu sch g0 g1 g2 g3 (nI ff3) (nI ss3) (nI dd3) n4 hsn hsk ff3 ss3 dd3 hff3 hss3 hdd3 c_5 c_8 c_11 c_15 c_18) (by decide) ?_
    refine lv_sipush (v := (-10000)) hx hb dX11_rivet_127 (by decide) ?_
    exact W.iret (v := (-10000)) hx hb hr (fun tt9 ht hW => ⟨⟨((-10000) : Int32), (), rfl, trivial, trivial⟩, hS.F ht⟩) hS.2.2 dX11_rivet_130 hlocks

theorem lf_X11_drawing_1 (a : Nat → Nat) (ap : Int32) (sn : Nat) (sk : Nat) (scu : Int32) (sch : Int32) (dm : Nat) (d2 : Nat → Int32) (n1 : Int32) (hsn : sn ≤ 24) (hsk : sk ≤ 8) (hdm : dm ≤ 4) : sn ≤ 24 := by
  first | assumption | omega | decide
theorem lf_X11_drawing_2 (a : Nat → Nat) (ap : Int32) (sn : Nat) (sk : Nat) (scu : Int32) (sch : Int32) (dm : Nat) (d2 : Nat → Int32) (n1 : Int32) (hsn : sn ≤ 24) (hsk : sk ≤ 8) (hdm : dm ≤ 4) : sk ≤ 8 := by
  first | assumption | omega | decide
theorem lf_X11_drawing_4 (a : Nat → Nat) (ap : Int32) (sn : Nat) (sk : Nat) (scu : Int32) (sch : Int32) (dm : Nat) (d2 : Nat → Int32) (n1 : Int32) (hsn : sn ≤ 24) (hsk : sk ≤ 8) (hdm : dm ≤ 4) : ((dm : Nat) ≤ 4) := by
  first | omega | assumption | trivial
theorem lf_X11_drawing_7 (a : Nat → Nat) (ap : Int32) (sn : Nat) (sk : Nat) (scu : Int32) (sch : Int32) (dm : Nat) (d2 : Nat → Int32) (n1 : Int32) (hsn : sn ≤ 24) (hsk : sk ≤ 8) (hdm : dm ≤ 4) (hst3 : 0 < sn) (c_6 : (0 : Int32) ≤ n1 ∧ n1 ≤ 2100) (tn1 : Nat) (tn1a : 0 ≤ tn1) (tn1b : tn1 ≤ 2100) (tn1e : n1 = nI tn1) : dm ≤ 4 := by
  first | assumption | omega | decide
theorem lf_X11_drawing_10 (a : Nat → Nat) (ap : Int32) (sn : Nat) (sk : Nat) (scu : Int32) (sch : Int32) (dm : Nat) (d2 : Nat → Int32) (n1 : Int32) (hsn : sn ≤ 24) (hsk : sk ≤ 8) (hdm : dm ≤ 4) (hst3 : 0 < sn) (c_6 : (0 : Int32) ≤ n1 ∧ n1 ≤ 2100) (tn1 : Nat) (tn1a : 0 ≤ tn1) (tn1b : tn1 ≤ 2100) (tn1e : n1 = nI tn1) (dm_9 : Nat) (d2_9 : Nat → Int32) (hz_9_0 : dm_9 ≤ 4) (r_8 : Int32) : ((dm_9 : Nat) ≤ 4) := by
  first | omega | assumption | trivial
theorem lf_X11_drawing_11 (a : Nat → Nat) (ap : Int32) (sn : Nat) (sk : Nat) (scu : Int32) (sch : Int32) (dm : Nat) (d2 : Nat → Int32) (n1 : Int32) (hsn : sn ≤ 24) (hsk : sk ≤ 8) (hdm : dm ≤ 4) (hst3 : 0 < sn) (c_6 : ¬ ((0 : Int32) ≤ n1 ∧ n1 ≤ 2100)) : ((dm : Nat) ≤ 4) := by
  first | omega | assumption | trivial
set_option maxHeartbeats 4000000 in
set_option maxRecDepth 100000 in
theorem c_X11_drawing (l : Launch) (D : va_G) (cI cB cZ cJ : ClassId) (tx : List (ClassId × FieldType)) (a : Nat → Nat) (ap : Int32) (sn : Nat) (sk : Nat) (scu : Int32) (sch : Int32) (dm : Nat) (d2 : Nat → Int32) (n1 : Int32) (hsn : sn ≤ 24) (hsk : sk ≤ 8) (hdm : dm ≤ 4) : WrI l D cI cB cZ cJ tx yX11_drawing cX11_drawing 2 (some .int) 2 0 0 [.ref (a 0), .int n1] [(a 0, .inr (11, [.ref (a 1), .ref (a 2), .ref (a 3), .ref (a 4), .ref (a 5), .ref (a 6), .ref (a 7), .ref (a 8), .ref (a 9), .ref (a 10), .ref (a 11), .ref (a 12), .int ap])), (a 5, .inr (4, [.ref (a 18), .ref (a 19), .ref (a 20), .ref (a 21), .ref (a 22), .ref (a 23), .ref (a 24), .int (nI sn), .int (nI sk), .int scu, .int sch])), (a 6, .inr (0, [.ref (a 5), .ref (a 25), .ref (a 26), .ref (a 27), .ref (a 28), .ref (a 29), .int (nI dm)])), (a 27, .inl (cZ, 1536, .inl d2))] (fun (r : Int32) (v : (Nat) × (Nat → Int32)) => (v.1 ≤ 4)) (fun v => [(a 0, .inr (11, [.ref (a 1), .ref (a 2), .ref (a 3), .ref (a 4), .ref (a 5), .ref (a 6), .ref (a 7), .ref (a 8), .ref (a 9), .ref (a 10), .ref (a 11), .ref (a 12), .int ap])), (a 5, .inr (4, [.ref (a 18), .ref (a 19), .ref (a 20), .ref (a 21), .ref (a 22), .ref (a 23), .ref (a 24), .int (nI sn), .int (nI sk), .int scu, .int sch])), (a 6, .inr (0, [.ref (a 5), .ref (a 25), .ref (a 26), .ref (a 27), .ref (a 28), .ref (a 29), .int (nI (v.1))])), (a 27, .inl (cZ, 1536, .inl v.2))]) := by
  refine wri_of2 (by decide) (Nat.le_of_ble_eq_true rfl) ?_
  intro p e s m below meth c A ls H locs hC hK hP hD hA hS hl
  obtain ⟨hx, hb, hr, hml, hown, hts, hlocks, hin⟩ := hC
  have hown : s.vm.findClass RX11 = some m.cls := hown
  have hl : lv_has ls 2 [(0, .ref (a 0)), (1, .int n1)] := hl
  refine lv_aload_n hx hb dX11_drawing_0 rfl (lv_at hl 0 rfl) ?_
  refine va_get (D := D) (ci := 11) (v := .ref (a 5)) (C := RX11) (T := TX11) (N := 13) hx hb hts inT_X11 hown hK.1 hP 0 rfl rfl 4 (by decide) (hts _ k_487) (fun _ h9 => h9) rfl dX11_drawing_1 ?_
  refine eRi (va_runV (As := []) (rest := []) ⟨hx, hb, hml, hown, hts⟩ (c_X4_stands l D cI cB cZ cJ tx a sn sk scu sch (lf_X11_drawing_1 a ap sn sk scu sch dm d2 n1 hsn hsk hdm) (lf_X11_drawing_2 a ap sn sk scu sch dm d2 n1 hsn hsk hdm) H.size) (zV hts k_824 v_X4_stands ⟨Nat.le_of_ble_eq_true rfl, Nat.le_of_ble_eq_true rfl⟩) (pV (px1 hK hP 1 rfl) hK hP 1 rfl rfl) rfl rfl hl.1 rfl (lv_room (Nat.le_of_ble_eq_true rfl)) dX11_drawing_4 ⟨Nat.le_of_ble_eq_true rfl, Nat.le_of_ble_eq_true rfl⟩) hP hS hA (fun r_3 H locs wr_3 hP hS => ?_)
  rcases wr_3 with ⟨rfl, _⟩ | ⟨rfl, hst3⟩
  · refine lv_if_eq (tgt := 21) hx hb dX11_drawing_7 (by decide) (fun _ => ?_) (fun c => absurd c (by decide))
    refine lv_iconst (v := (-1)) hx hb dX11_drawing_21 (by decide) ?_
    exact W.iret (v := (-1)) hx hb hr (fun tt9 ht hW => ⟨⟨((-1) : Int32), ((dm : Nat), (d2 : Nat → Int32)), rfl, (lf_X11_drawing_4 a ap sn sk scu sch dm d2 n1 hsn hsk hdm), ⟨by rw [ht]; exact hP, hD⟩⟩, hS.F ht⟩) hS.2.2 dX11_drawing_22 hlocks
  · refine lv_if_eq (tgt := 21) hx hb dX11_drawing_7 (by decide) (fun c => absurd c (by decide)) (fun _ => ?_)
    refine lv_iload_n hx hb dX11_drawing_10 rfl (lv_at hl 1 rfl) ?_
    refine lv_iconst (v := 0) hx hb dX11_drawing_11 (by decide) ?_
    refine lv_sipush (v := 2100) hx hb dX11_drawing_12 (by decide) ?_
    refine eRi (va_runS (As := [.int n1, .int 0, .int 2100]) (rest := []) ⟨hx, hb, hml, hown, hts⟩ (c_X11_within l D cI cB cZ cJ tx n1 0 2100 H.size) (zS hts k_527 v_X11_within ⟨Nat.le_of_ble_eq_true rfl, Nat.le_of_ble_eq_true rfl⟩) (px0 hK) rfl rfl hl.1 rfl (lv_room (Nat.le_of_ble_eq_true rfl)) dX11_drawing_15 ⟨Nat.le_of_ble_eq_true rfl, Nat.le_of_ble_eq_true rfl⟩) hP hS hA (fun r_5 H locs wr_5 hP hS => ?_)
    subst wr_5
    refine lv_bi_ne (tgt := 23) hx hb dX11_drawing_18 (by decide) (fun c_6 => ?_) (fun c_6 => ?_)
    · obtain ⟨tn1, tn1a, tn1b, tn1e⟩ := of_rng 0 2100 rfl rfl c_6
      subst tn1e
      refine lv_aload_n hx hb dX11_drawing_23 rfl (lv_at hl 0 rfl) ?_
      refine va_get (D := D) (ci := 11) (v := .ref (a 6)) (C := RX11) (T := TX11) (N := 13) hx hb hts inT_X11 hown hK.1 hP 0 rfl rfl 5 (by decide) (hts _ k_488) (fun _ h9 => h9) rfl dX11_drawing_24 ?_
      refine eWi (wr := [(a 0, .inr (11, [.ref (a 1), .ref (a 2), .ref (a 3), .ref (a 4), .ref (a 5), .ref (a 6), .ref (a 7), .ref (a 8), .ref (a 9), .ref (a 10), .ref (a 11), .ref (a 12), .int ap])), (a 5, .inr (4, [.ref (a 18), .ref (a 19), .ref (a 20), .ref (a 21), .ref (a 22), .ref (a 23), .ref (a 24), .int (nI sn), .int (nI sk), .int scu, .int sch]))]) (va_runV (As := []) (rest := []) ⟨hx, hb, hml, hown, hts⟩ (c_X0_begin l D cI cB cZ cJ tx a dm d2 (lf_X11_drawing_7 a ap sn sk scu sch dm d2 (nI tn1) hsn hsk hdm hst3 c_6 tn1 tn1a tn1b rfl) H.size) (zV hts k_891 v_X0_begin ⟨Nat.le_of_ble_eq_true rfl, Nat.le_of_ble_eq_true rfl⟩) (pV (pxS hK hP hD [2, 3] (by decide) rfl) hK hP 2 rfl rfl) rfl rfl hl.1 rfl (lv_room (Nat.le_of_ble_eq_true rfl)) dX11_drawing_27 ⟨Nat.le_of_ble_eq_true rfl, Nat.le_of_ble_eq_true rfl⟩) hP hD hS hA [2, 3] [0, 1] rfl rfl (by decide) (by decide) (fun r_8 u_9 H locs wr_8 hP hD hS => ?_)
      obtain ⟨dm_9, d2_9⟩ := u_9
      have hz_9_0 : dm_9 ≤ 4 := wr_8
      have hP : va_P D vwCl [(a 0, .inr (11, [.ref (a 1), .ref (a 2), .ref (a 3), .ref (a 4), .ref (a 5), .ref (a 6), .ref (a 7), .ref (a 8), .ref (a 9), .ref (a 10), .ref (a 11), .ref (a 12), .int ap])), (a 5, .inr (4, [.ref (a 18), .ref (a 19), .ref (a 20), .ref (a 21), .ref (a 22), .ref (a 23), .ref (a 24), .int (nI sn), .int (nI sk), .int scu, .int sch])), (a 6, .inr (0, [.ref (a 5), .ref (a 25), .ref (a 26), .ref (a 27), .ref (a 28), .ref (a 29), .int (nI dm_9)])), (a 27, .inl (cZ, 1536, .inl d2_9))] H := hP
      have hD : va_D A [(a 0, .inr (11, [.ref (a 1), .ref (a 2), .ref (a 3), .ref (a 4), .ref (a 5), .ref (a 6), .ref (a 7), .ref (a 8), .ref (a 9), .ref (a 10), .ref (a 11), .ref (a 12), .int ap])), (a 5, .inr (4, [.ref (a 18), .ref (a 19), .ref (a 20), .ref (a 21), .ref (a 22), .ref (a 23), .ref (a 24), .int (nI sn), .int (nI sk), .int scu, .int sch])), (a 6, .inr (0, [.ref (a 5), .ref (a 25), .ref (a 26), .ref (a 27), .ref (a 28), .ref (a 29), .int (nI dm_9)])), (a 27, .inl (cZ, 1536, .inl d2_9))] := hD
      exact W.iret (v := r_8) hx hb hr (fun tt9 ht hW => ⟨⟨(r_8 : Int32), ((dm_9 : Nat), (d2_9 : Nat → Int32)), rfl, (lf_X11_drawing_10 a ap sn sk scu sch dm d2 (nI tn1) hsn hsk hdm hst3 c_6 tn1 tn1a tn1b rfl dm_9 d2_9 hz_9_0 r_8), ⟨by rw [ht]; exact hP, hD⟩⟩, hS.F ht⟩) hS.2.2 dX11_drawing_30 hlocks
    · refine lv_iconst (v := (-1)) hx hb dX11_drawing_21 (by decide) ?_
      exact W.iret (v := (-1)) hx hb hr (fun tt9 ht hW => ⟨⟨((-1) : Int32), ((dm : Nat), (d2 : Nat → Int32)), rfl, (lf_X11_drawing_11 a ap sn sk scu sch dm d2 n1 hsn hsk hdm hst3 c_6), ⟨by rw [ht]; exact hP, hD⟩⟩, hS.F ht⟩) hS.2.2 dX11_drawing_22 hlocks

theorem lf_X11_mark_1 (a : Nat → Nat) (ap : Int32) (sn : Nat) (sk : Nat) (scu : Int32) (sch : Int32) (dm : Nat) (d0 : Nat → Int32) (d1 : Nat → Int32) (d2 : Nat → Int32) (n1 : Int32) (n2 : Int32) (n3 : Int32) (n4 : Int32) (n5 : Int32) (n6 : Int32) (hsn : sn ≤ 24) (hsk : sk ≤ 8) (hdm : dm ≤ 4) : sn ≤ 24 := by
  first | assumption | omega | decide
theorem lf_X11_mark_2 (a : Nat → Nat) (ap : Int32) (sn : Nat) (sk : Nat) (scu : Int32) (sch : Int32) (dm : Nat) (d0 : Nat → Int32) (d1 : Nat → Int32) (d2 : Nat → Int32) (n1 : Int32) (n2 : Int32) (n3 : Int32) (n4 : Int32) (n5 : Int32) (n6 : Int32) (hsn : sn ≤ 24) (hsk : sk ≤ 8) (hdm : dm ≤ 4) : sk ≤ 8 := by
  first | assumption | omega | decide
theorem lf_X11_mark_4 (a : Nat → Nat) (ap : Int32) (sn : Nat) (sk : Nat) (scu : Int32) (sch : Int32) (dm : Nat) (d0 : Nat → Int32) (d1 : Nat → Int32) (d2 : Nat → Int32) (n1 : Int32) (n2 : Int32) (n3 : Int32) (n4 : Int32) (n5 : Int32) (n6 : Int32) (hsn : sn ≤ 24) (hsk : sk ≤ 8) (hdm : dm ≤ 4) (ff3 : Nat) (ss3 : Nat) (dd3 : Nat) (hff3 : ff3 < sn) (hss3 : ss3 < sk) (hdd3 : dd3 < 2) : ¬ nI ((ff3 * 8 + ss3) * 2 + dd3) < 0 := by
  first | exact nI_pos (by omega) | exact nI_pos' (by omega)
theorem lf_X11_mark_7 (a : Nat → Nat) (ap : Int32) (sn : Nat) (sk : Nat) (scu : Int32) (sch : Int32) (dm : Nat) (d0 : Nat → Int32) (d1 : Nat → Int32) (d2 : Nat → Int32) (n1 : Int32) (n2 : Int32) (n3 : Int32) (n4 : Int32) (n5 : Int32) (n6 : Int32) (hsn : sn ≤ 24) (hsk : sk ≤ 8) (hdm : dm ≤ 4) (ff3 : Nat) (ss3 : Nat) (dd3 : Nat) (hff3 : ff3 < sn) (hss3 : ss3 < sk) (hdd3 : dd3 < 2) (c_6 : (0 : Int32) ≤ n1 ∧ n1 ≤ nI dm - 1) : dm < 2 ^ 31 := by
  omega
theorem lf_X11_mark_12 (a : Nat → Nat) (ap : Int32) (sn : Nat) (sk : Nat) (scu : Int32) (sch : Int32) (dm : Nat) (d0 : Nat → Int32) (d1 : Nat → Int32) (d2 : Nat → Int32) (n1 : Int32) (n2 : Int32) (n3 : Int32) (n4 : Int32) (n5 : Int32) (n6 : Int32) (hsn : sn ≤ 24) (hsk : sk ≤ 8) (hdm : dm ≤ 4) (ff3 : Nat) (ss3 : Nat) (dd3 : Nat) (hff3 : ff3 < sn) (hss3 : ss3 < sk) (hdd3 : dd3 < 2) (c_6 : (0 : Int32) ≤ n1 ∧ n1 ≤ nI dm - 1) (tn1 : Nat) (tn1a : tn1 < dm) (tn1e : n1 = nI tn1) (c_9 : ((-6000) : Int32) ≤ n5 ∧ n5 ≤ 6000) (c_11 : ((-6000) : Int32) ≤ n6 ∧ n6 ≤ 6000) : tn1 < 4 := by
  first | assumption | omega | decide
theorem lf_X11_mark_13 (a : Nat → Nat) (ap : Int32) (sn : Nat) (sk : Nat) (scu : Int32) (sch : Int32) (dm : Nat) (d0 : Nat → Int32) (d1 : Nat → Int32) (d2 : Nat → Int32) (n1 : Int32) (n2 : Int32) (n3 : Int32) (n4 : Int32) (n5 : Int32) (n6 : Int32) (hsn : sn ≤ 24) (hsk : sk ≤ 8) (hdm : dm ≤ 4) (ff3 : Nat) (ss3 : Nat) (dd3 : Nat) (hff3 : ff3 < sn) (hss3 : ss3 < sk) (hdd3 : dd3 < 2) (c_6 : (0 : Int32) ≤ n1 ∧ n1 ≤ nI dm - 1) (tn1 : Nat) (tn1a : tn1 < dm) (tn1e : n1 = nI tn1) (c_9 : ((-6000) : Int32) ≤ n5 ∧ n5 ≤ 6000) (c_11 : ((-6000) : Int32) ≤ n6 ∧ n6 ≤ 6000) : ((ff3 * 8 + ss3) * 2 + dd3) < 384 := by
  first | assumption | omega | decide
set_option maxHeartbeats 4000000 in
set_option maxRecDepth 100000 in
theorem c_X11_mark (l : Launch) (D : va_G) (cI cB cZ cJ : ClassId) (tx : List (ClassId × FieldType)) (a : Nat → Nat) (ap : Int32) (sn : Nat) (sk : Nat) (scu : Int32) (sch : Int32) (dm : Nat) (d0 : Nat → Int32) (d1 : Nat → Int32) (d2 : Nat → Int32) (n1 : Int32) (n2 : Int32) (n3 : Int32) (n4 : Int32) (n5 : Int32) (n6 : Int32) (hsn : sn ≤ 24) (hsk : sk ≤ 8) (hdm : dm ≤ 4) : WrI l D cI cB cZ cJ tx yX11_mark cX11_mark 8 (some .boolean) 2 0 0 [.ref (a 0), .int n1, .int n2, .int n3, .int n4, .int n5, .int n6] [(a 0, .inr (11, [.ref (a 1), .ref (a 2), .ref (a 3), .ref (a 4), .ref (a 5), .ref (a 6), .ref (a 7), .ref (a 8), .ref (a 9), .ref (a 10), .ref (a 11), .ref (a 12), .int ap])), (a 5, .inr (4, [.ref (a 18), .ref (a 19), .ref (a 20), .ref (a 21), .ref (a 22), .ref (a 23), .ref (a 24), .int (nI sn), .int (nI sk), .int scu, .int sch])), (a 6, .inr (0, [.ref (a 5), .ref (a 25), .ref (a 26), .ref (a 27), .ref (a 28), .ref (a 29), .int (nI dm)])), (a 25, .inl (cI, 1536, .inl d0)), (a 26, .inl (cI, 1536, .inl d1)), (a 27, .inl (cZ, 1536, .inl d2))] (fun (r : Int32) (v : (Nat → Int32) × (Nat → Int32) × (Nat → Int32)) => True) (fun v => [(a 0, .inr (11, [.ref (a 1), .ref (a 2), .ref (a 3), .ref (a 4), .ref (a 5), .ref (a 6), .ref (a 7), .ref (a 8), .ref (a 9), .ref (a 10), .ref (a 11), .ref (a 12), .int ap])), (a 5, .inr (4, [.ref (a 18), .ref (a 19), .ref (a 20), .ref (a 21), .ref (a 22), .ref (a 23), .ref (a 24), .int (nI sn), .int (nI sk), .int scu, .int sch])), (a 6, .inr (0, [.ref (a 5), .ref (a 25), .ref (a 26), .ref (a 27), .ref (a 28), .ref (a 29), .int (nI dm)])), (a 25, .inl (cI, 1536, .inl v.1)), (a 26, .inl (cI, 1536, .inl v.2.1)), (a 27, .inl (cZ, 1536, .inl v.2.2))]) := by
  refine wri_of2 (by decide) (Nat.le_of_ble_eq_true rfl) ?_
  intro p e s m below meth c A ls H locs hC hK hP hD hA hS hl
  obtain ⟨hx, hb, hr, hml, hown, hts, hlocks, hin⟩ := hC
  have hown : s.vm.findClass RX11 = some m.cls := hown
  have hl : lv_has ls 8 [(0, .ref (a 0)), (1, .int n1), (2, .int n2), (3, .int n3), (4, .int n4), (5, .int n5), (6, .int n6)] := hl
  refine lv_aload_n hx hb dX11_mark_0 rfl (lv_at hl 0 rfl) ?_
  refine va_get (D := D) (ci := 11) (v := .ref (a 5)) (C := RX11) (T := TX11) (N := 13) hx hb hts inT_X11 hown hK.1 hP 0 rfl rfl 4 (by decide) (hts _ k_487) (fun _ h9 => h9) rfl dX11_mark_1 ?_
  refine lv_iload_n hx hb dX11_mark_4 rfl (lv_at hl 2 rfl) ?_
  refine lv_iload_n hx hb dX11_mark_5 rfl (lv_at hl 3 rfl) ?_
  refine lv_iload hx hb dX11_mark_6 (lv_at hl 4 rfl) ?_
  refine eRi (va_runV (As := [.int n2, .int n3, .int n4]) (rest := []) ⟨hx, hb, hml, hown, hts⟩ (c_X4_rivetAt_a l D cI cB cZ cJ tx a sn sk scu sch n2 n3 n4 (lf_X11_mark_1 a ap sn sk scu sch dm d0 d1 d2 n1 n2 n3 n4 n5 n6 hsn hsk hdm) (lf_X11_mark_2 a ap sn sk scu sch dm d0 d1 d2 n1 n2 n3 n4 n5 n6 hsn hsk hdm) H.size) (zV hts k_850 v_X4_rivetAt ⟨Nat.le_of_ble_eq_true rfl, Nat.le_of_ble_eq_true rfl⟩) (pV (px1 hK hP 1 rfl) hK hP 1 rfl rfl) rfl rfl hl.1 rfl (lv_room (Nat.le_of_ble_eq_true rfl)) dX11_mark_8 ⟨Nat.le_of_ble_eq_true rfl, Nat.le_of_ble_eq_true rfl⟩) hP hS hA (fun r_3 H locs wr_3 hP hS => ?_)
  rcases wr_3 with rfl | ⟨ff3, ss3, dd3, hff3, hss3, hdd3, rfl, rfl, rfl, rfl⟩
  · refine lv_istore (lv' := [(7, .int (-1)), (0, .ref (a 0)), (1, .int n1), (2, .int n2), (3, .int n3), (4, .int n4), (5, .int n5), (6, .int n6)]) hx hb dX11_mark_11 hl (by decide) rfl (fun ls hl => ?_)
    refine lv_iload hx hb dX11_mark_13 (lv_at hl 0 rfl) ?_
    refine lv_if_lt (tgt := 57) hx hb dX11_mark_15 (by decide) (fun _ => ?_) (fun c => absurd c (by decide))
    refine lv_iconst (v := 0) hx hb dX11_mark_57 (by decide) ?_
    exact W.zret (v := 0) hx hb hr (by decide) (fun tt9 ht hW => ⟨⟨(0 : Int32), ((d0 : Nat → Int32), (d1 : Nat → Int32), (d2 : Nat → Int32)), rfl, trivial, ⟨by rw [ht]; exact hP, hD⟩⟩, hS.F ht⟩) hS.2.2 dX11_mark_58 hlocks
  · refine lv_istore (lv' := [(7, .int (nI ((ff3 * 8 + ss3) * 2 + dd3))), (0, .ref (a 0)), (1, .int n1), (2, .int (nI ff3)), (3, .int (nI ss3)), (4, .int (nI dd3)), (5, .int n5), (6, .int n6)]) hx hb dX11_mark_11 hl (by decide) rfl (fun ls hl => ?_)
    refine lv_iload hx hb dX11_mark_13 (lv_at hl 0 rfl) ?_
    refine lv_if_lt (tgt := 57) hx hb dX11_mark_15 (by decide) (fun c => absurd c (lf_X11_mark_4 a ap sn sk scu sch dm d0 d1 d2 n1 (nI ff3) (nI ss3) (nI dd3) n5 n6 hsn hsk hdm ff3 ss3 dd3 hff3 hss3 hdd3)) (fun _ => ?_)
    refine lv_aload_n hx hb dX11_mark_18 rfl (lv_at hl 1 rfl) ?_
    refine va_get (D := D) (ci := 11) (v := .ref (a 6)) (C := RX11) (T := TX11) (N := 13) hx hb hts inT_X11 hown hK.1 hP 0 rfl rfl 5 (by decide) (hts _ k_488) (fun _ h9 => h9) rfl dX11_mark_19 ?_
    refine lv_iload_n hx hb dX11_mark_22 rfl (lv_at hl 2 rfl) ?_
    refine eRi (va_runV (As := [.int n1]) (rest := []) ⟨hx, hb, hml, hown, hts⟩ (c_X0_has l D cI cB cZ cJ tx a dm n1 H.size) (zV hts k_899 v_X0_has ⟨Nat.le_of_ble_eq_true rfl, Nat.le_of_ble_eq_true rfl⟩) (pV (px1 hK hP 2 rfl) hK hP 2 rfl rfl) rfl rfl hl.1 rfl (lv_room (Nat.le_of_ble_eq_true rfl)) dX11_mark_23 ⟨Nat.le_of_ble_eq_true rfl, Nat.le_of_ble_eq_true rfl⟩) hP hS hA (fun r_5 H locs wr_5 hP hS => ?_)
    subst wr_5
    refine lv_bi_eq (tgt := 57) hx hb dX11_mark_26 (by decide) (fun c_6 => ?_) (fun c_6 => ?_)
    · refine lv_iconst (v := 0) hx hb dX11_mark_57 (by decide) ?_
      exact W.zret (v := 0) hx hb hr (by decide) (fun tt9 ht hW => ⟨⟨(0 : Int32), ((d0 : Nat → Int32), (d1 : Nat → Int32), (d2 : Nat → Int32)), rfl, trivial, ⟨by rw [ht]; exact hP, hD⟩⟩, hS.F ht⟩) hS.2.2 dX11_mark_58 hlocks
    · obtain ⟨tn1, tn1a, tn1e⟩ := of_within (lf_X11_mark_7 a ap sn sk scu sch dm d0 d1 d2 n1 (nI ff3) (nI ss3) (nI dd3) n5 n6 hsn hsk hdm ff3 ss3 dd3 hff3 hss3 hdd3 c_6) c_6
      subst tn1e
      refine lv_iload hx hb dX11_mark_29 (lv_at hl 6 rfl) ?_
      refine lv_sipush (v := (-6000)) hx hb dX11_mark_31 (by decide) ?_
      refine lv_sipush (v := 6000) hx hb dX11_mark_34 (by decide) ?_
      refine eRi (va_runS (As := [.int n5, .int (-6000), .int 6000]) (rest := []) ⟨hx, hb, hml, hown, hts⟩ (c_X11_within l D cI cB cZ cJ tx n5 (-6000) 6000 H.size) (zS hts k_527 v_X11_within ⟨Nat.le_of_ble_eq_true rfl, Nat.le_of_ble_eq_true rfl⟩) (px0 hK) rfl rfl hl.1 rfl (lv_room (Nat.le_of_ble_eq_true rfl)) dX11_mark_37 ⟨Nat.le_of_ble_eq_true rfl, Nat.le_of_ble_eq_true rfl⟩) hP hS hA (fun r_8 H locs wr_8 hP hS => ?_)
      subst wr_8
      refine lv_bi_eq (tgt := 57) hx hb dX11_mark_40 (by decide) (fun c_9 => ?_) (fun c_9 => ?_)
      · refine lv_iconst (v := 0) hx hb dX11_mark_57 (by decide) ?_
        exact W.zret (v := 0) hx hb hr (by decide) (fun tt9 ht hW => ⟨⟨(0 : Int32), ((d0 : Nat → Int32), (d1 : Nat → Int32), (d2 : Nat → Int32)), rfl, trivial, ⟨by rw [ht]; exact hP, hD⟩⟩, hS.F ht⟩) hS.2.2 dX11_mark_58 hlocks
      · refine lv_iload hx hb dX11_mark_43 (lv_at hl 7 rfl) ?_
        refine lv_sipush (v := (-6000)) hx hb dX11_mark_45 (by decide) ?_
        refine lv_sipush (v := 6000) hx hb dX11_mark_48 (by decide) ?_
        refine eRi (va_runS (As := [.int n6, .int (-6000), .int 6000]) (rest := []) ⟨hx, hb, hml, hown, hts⟩ (c_X11_within l D cI cB cZ cJ tx n6 (-6000) 6000 H.size) (zS hts k_527 v_X11_within ⟨Nat.le_of_ble_eq_true rfl, Nat.le_of_ble_eq_true rfl⟩) (px0 hK) rfl rfl hl.1 rfl (lv_room (Nat.le_of_ble_eq_true rfl)) dX11_mark_51 ⟨Nat.le_of_ble_eq_true rfl, Nat.le_of_ble_eq_true rfl⟩) hP hS hA (fun r_10 H locs wr_10 hP hS => ?_)
        subst wr_10
        refine lv_bi_ne (tgt := 59) hx hb dX11_mark_54 (by decide) (fun c_11 => ?_) (fun c_11 => ?_)
        · refine lv_aload_n hx hb dX11_mark_59 rfl (lv_at hl 1 rfl) ?_
          refine va_get (D := D) (ci := 11) (v := .ref (a 6)) (C := RX11) (T := TX11) (N := 13) hx hb hts inT_X11 hown hK.1 hP 0 rfl rfl 5 (by decide) (hts _ k_488) (fun _ h9 => h9) rfl dX11_mark_60 ?_
          refine lv_iload_n hx hb dX11_mark_63 rfl (lv_at hl 2 rfl) ?_
          refine lv_iload hx hb dX11_mark_64 (lv_at hl 0 rfl) ?_
          refine lv_iload hx hb dX11_mark_66 (lv_at hl 6 rfl) ?_
          refine lv_iload hx hb dX11_mark_68 (lv_at hl 7 rfl) ?_
          refine eWv (wr := [(a 0, .inr (11, [.ref (a 1), .ref (a 2), .ref (a 3), .ref (a 4), .ref (a 5), .ref (a 6), .ref (a 7), .ref (a 8), .ref (a 9), .ref (a 10), .ref (a 11), .ref (a 12), .int ap])), (a 5, .inr (4, [.ref (a 18), .ref (a 19), .ref (a 20), .ref (a 21), .ref (a 22), .ref (a 23), .ref (a 24), .int (nI sn), .int (nI sk), .int scu, .int sch]))]) (va_runV (As := [.int (nI tn1), .int (nI ((ff3 * 8 + ss3) * 2 + dd3)), .int n5, .int n6]) (rest := []) ⟨hx, hb, hml, hown, hts⟩ (c_X0_put l D cI cB cZ cJ tx a dm d0 d1 d2 tn1 ((ff3 * 8 + ss3) * 2 + dd3) n5 n6 (lf_X11_mark_12 a ap sn sk scu sch dm d0 d1 d2 (nI tn1) (nI ff3) (nI ss3) (nI dd3) n5 n6 hsn hsk hdm ff3 ss3 dd3 hff3 hss3 hdd3 c_6 tn1 tn1a rfl c_9 c_11) (lf_X11_mark_13 a ap sn sk scu sch dm d0 d1 d2 (nI tn1) (nI ff3) (nI ss3) (nI dd3) n5 n6 hsn hsk hdm ff3 ss3 dd3 hff3 hss3 hdd3 c_6 tn1 tn1a rfl c_9 c_11) H.size) (zV hts k_904 v_X0_put ⟨Nat.le_of_ble_eq_true rfl, Nat.le_of_ble_eq_true rfl⟩) (pV (pxS hK hP hD [2, 3, 4, 5] (by decide) rfl) hK hP 2 rfl rfl) rfl rfl hl.1 rfl (lv_room (Nat.le_of_ble_eq_true rfl)) dX11_mark_70 ⟨Nat.le_of_ble_eq_true rfl, Nat.le_of_ble_eq_true rfl⟩) hP hD hS hA [2, 3, 4, 5] [0, 1] rfl rfl (by decide) (by decide) (fun u_15 H locs wr_14 hP hD hS => ?_)
          obtain ⟨d0_15, d1_15, d2_15⟩ := u_15
          have hP : va_P D vwCl [(a 0, .inr (11, [.ref (a 1), .ref (a 2), .ref (a 3), .ref (a 4), .ref (a 5), .ref (a 6), .ref (a 7), .ref (a 8), .ref (a 9), .ref (a 10), .ref (a 11), .ref (a 12), .int ap])), (a 5, .inr (4, [.ref (a 18), .ref (a 19), .ref (a 20), .ref (a 21), .ref (a 22), .ref (a 23), .ref (a 24), .int (nI sn), .int (nI sk), .int scu, .int sch])), (a 6, .inr (0, [.ref (a 5), .ref (a 25), .ref (a 26), .ref (a 27), .ref (a 28), .ref (a 29), .int (nI dm)])), (a 25, .inl (cI, 1536, .inl d0_15)), (a 26, .inl (cI, 1536, .inl d1_15)), (a 27, .inl (cZ, 1536, .inl d2_15))] H := hP
          have hD : va_D A [(a 0, .inr (11, [.ref (a 1), .ref (a 2), .ref (a 3), .ref (a 4), .ref (a 5), .ref (a 6), .ref (a 7), .ref (a 8), .ref (a 9), .ref (a 10), .ref (a 11), .ref (a 12), .int ap])), (a 5, .inr (4, [.ref (a 18), .ref (a 19), .ref (a 20), .ref (a 21), .ref (a 22), .ref (a 23), .ref (a 24), .int (nI sn), .int (nI sk), .int scu, .int sch])), (a 6, .inr (0, [.ref (a 5), .ref (a 25), .ref (a 26), .ref (a 27), .ref (a 28), .ref (a 29), .int (nI dm)])), (a 25, .inl (cI, 1536, .inl d0_15)), (a 26, .inl (cI, 1536, .inl d1_15)), (a 27, .inl (cZ, 1536, .inl d2_15))] := hD
          refine lv_iconst (v := 1) hx hb dX11_mark_73 (by decide) ?_
          exact W.zret (v := 1) hx hb hr (by decide) (fun tt9 ht hW => ⟨⟨(1 : Int32), ((d0_15 : Nat → Int32), (d1_15 : Nat → Int32), (d2_15 : Nat → Int32)), rfl, trivial, ⟨by rw [ht]; exact hP, hD⟩⟩, hS.F ht⟩) hS.2.2 dX11_mark_74 hlocks
        · refine lv_iconst (v := 0) hx hb dX11_mark_57 (by decide) ?_
          exact W.zret (v := 0) hx hb hr (by decide) (fun tt9 ht hW => ⟨⟨(0 : Int32), ((d0 : Nat → Int32), (d1 : Nat → Int32), (d2 : Nat → Int32)), rfl, trivial, ⟨by rw [ht]; exact hP, hD⟩⟩, hS.F ht⟩) hS.2.2 dX11_mark_58 hlocks

theorem lf_X11_draw_3 (a : Nat → Nat) (ap : Int32) (sn : Nat) (sk : Nat) (scu : Int32) (sch : Int32) (g0 : Nat → Int32) (g1 : Nat → Int32) (g3 : Nat → Int32) (dm : Nat) (d0 : Nat → Int32) (d1 : Nat → Int32) (d2 : Nat → Int32) (n1 : Int32) (n2 : Int32) (n3 : Int32) (n4 : Int32) (hsn : sn ≤ 24) (hsk : sk ≤ 8) (hdm : dm ≤ 4) (c_2 : (0 : Int32) ≤ n1 ∧ n1 ≤ nI dm - 1) : dm < 2 ^ 31 := by
  omega
theorem lf_X11_draw_10 (a : Nat → Nat) (ap : Int32) (sn : Nat) (sk : Nat) (scu : Int32) (sch : Int32) (g0 : Nat → Int32) (g1 : Nat → Int32) (g3 : Nat → Int32) (dm : Nat) (d0 : Nat → Int32) (d1 : Nat → Int32) (d2 : Nat → Int32) (n1 : Int32) (n2 : Int32) (n3 : Int32) (n4 : Int32) (hsn : sn ≤ 24) (hsk : sk ≤ 8) (hdm : dm ≤ 4) (c_2 : (0 : Int32) ≤ n1 ∧ n1 ≤ nI dm - 1) (tn1 : Nat) (tn1a : tn1 < dm) (tn1e : n1 = nI tn1) (c_5 : ((-2000) : Int32) ≤ n2 ∧ n2 ≤ 2000) (c_7 : ((-2000) : Int32) ≤ n3 ∧ n3 ≤ 2000) (c_9 : (0 : Int32) ≤ n4 ∧ n4 ≤ 1000) (tn4 : Nat) (tn4a : 0 ≤ tn4) (tn4b : tn4 ≤ 1000) (tn4e : n4 = nI tn4) : dm ≤ 4 := by
  first | assumption | omega | decide
theorem lf_X11_draw_11 (a : Nat → Nat) (ap : Int32) (sn : Nat) (sk : Nat) (scu : Int32) (sch : Int32) (g0 : Nat → Int32) (g1 : Nat → Int32) (g3 : Nat → Int32) (dm : Nat) (d0 : Nat → Int32) (d1 : Nat → Int32) (d2 : Nat → Int32) (n1 : Int32) (n2 : Int32) (n3 : Int32) (n4 : Int32) (hsn : sn ≤ 24) (hsk : sk ≤ 8) (hdm : dm ≤ 4) (c_2 : (0 : Int32) ≤ n1 ∧ n1 ≤ nI dm - 1) (tn1 : Nat) (tn1a : tn1 < dm) (tn1e : n1 = nI tn1) (c_5 : ((-2000) : Int32) ≤ n2 ∧ n2 ≤ 2000) (c_7 : ((-2000) : Int32) ≤ n3 ∧ n3 ≤ 2000) (c_9 : (0 : Int32) ≤ n4 ∧ n4 ≤ 1000) (tn4 : Nat) (tn4a : 0 ≤ tn4) (tn4b : tn4 ≤ 1000) (tn4e : n4 = nI tn4) : tn1 < dm := by
  first | assumption | omega | decide
theorem lf_X11_draw_12 (a : Nat → Nat) (ap : Int32) (sn : Nat) (sk : Nat) (scu : Int32) (sch : Int32) (g0 : Nat → Int32) (g1 : Nat → Int32) (g3 : Nat → Int32) (dm : Nat) (d0 : Nat → Int32) (d1 : Nat → Int32) (d2 : Nat → Int32) (n1 : Int32) (n2 : Int32) (n3 : Int32) (n4 : Int32) (hsn : sn ≤ 24) (hsk : sk ≤ 8) (hdm : dm ≤ 4) (c_2 : (0 : Int32) ≤ n1 ∧ n1 ≤ nI dm - 1) (tn1 : Nat) (tn1a : tn1 < dm) (tn1e : n1 = nI tn1) (c_5 : ((-2000) : Int32) ≤ n2 ∧ n2 ≤ 2000) (c_7 : ((-2000) : Int32) ≤ n3 ∧ n3 ≤ 2000) (c_9 : (0 : Int32) ≤ n4 ∧ n4 ≤ 1000) (tn4 : Nat) (tn4a : 0 ≤ tn4) (tn4b : tn4 ≤ 1000) (tn4e : n4 = nI tn4) : sn ≤ 24 := by
  first | assumption | omega | decide
theorem lf_X11_draw_13 (a : Nat → Nat) (ap : Int32) (sn : Nat) (sk : Nat) (scu : Int32) (sch : Int32) (g0 : Nat → Int32) (g1 : Nat → Int32) (g3 : Nat → Int32) (dm : Nat) (d0 : Nat → Int32) (d1 : Nat → Int32) (d2 : Nat → Int32) (n1 : Int32) (n2 : Int32) (n3 : Int32) (n4 : Int32) (hsn : sn ≤ 24) (hsk : sk ≤ 8) (hdm : dm ≤ 4) (c_2 : (0 : Int32) ≤ n1 ∧ n1 ≤ nI dm - 1) (tn1 : Nat) (tn1a : tn1 < dm) (tn1e : n1 = nI tn1) (c_5 : ((-2000) : Int32) ≤ n2 ∧ n2 ≤ 2000) (c_7 : ((-2000) : Int32) ≤ n3 ∧ n3 ≤ 2000) (c_9 : (0 : Int32) ≤ n4 ∧ n4 ≤ 1000) (tn4 : Nat) (tn4a : 0 ≤ tn4) (tn4b : tn4 ≤ 1000) (tn4e : n4 = nI tn4) : sk ≤ 8 := by
  first | assumption | omega | decide
theorem lf_X11_draw_16 (a : Nat → Nat) (ap : Int32) (sn : Nat) (sk : Nat) (scu : Int32) (sch : Int32) (g0 : Nat → Int32) (g1 : Nat → Int32) (g3 : Nat → Int32) (dm : Nat) (d0 : Nat → Int32) (d1 : Nat → Int32) (d2 : Nat → Int32) (n1 : Int32) (n2 : Int32) (n3 : Int32) (n4 : Int32) (hsn : sn ≤ 24) (hsk : sk ≤ 8) (hdm : dm ≤ 4) (c_2 : (0 : Int32) ≤ n1 ∧ n1 ≤ nI dm - 1) (tn1 : Nat) (tn1a : tn1 < dm) (tn1e : n1 = nI tn1) (c_5 : ((-2000) : Int32) ≤ n2 ∧ n2 ≤ 2000) (c_7 : ((-2000) : Int32) ≤ n3 ∧ n3 ≤ 2000) (c_9 : (0 : Int32) ≤ n4 ∧ n4 ≤ 1000) (tn4 : Nat) (tn4a : 0 ≤ tn4) (tn4b : tn4 ≤ 1000) (tn4e : n4 = nI tn4) (d0_15 : Nat → Int32) (d1_15 : Nat → Int32) (d2_15 : Nat → Int32) (sch_15 : Int32) : dm ≤ 4 := by
  first | assumption | omega | decide
theorem lf_X11_draw_17 (a : Nat → Nat) (ap : Int32) (sn : Nat) (sk : Nat) (scu : Int32) (sch : Int32) (g0 : Nat → Int32) (g1 : Nat → Int32) (g3 : Nat → Int32) (dm : Nat) (d0 : Nat → Int32) (d1 : Nat → Int32) (d2 : Nat → Int32) (n1 : Int32) (n2 : Int32) (n3 : Int32) (n4 : Int32) (hsn : sn ≤ 24) (hsk : sk ≤ 8) (hdm : dm ≤ 4) (c_2 : (0 : Int32) ≤ n1 ∧ n1 ≤ nI dm - 1) (tn1 : Nat) (tn1a : tn1 < dm) (tn1e : n1 = nI tn1) (c_5 : ((-2000) : Int32) ≤ n2 ∧ n2 ≤ 2000) (c_7 : ((-2000) : Int32) ≤ n3 ∧ n3 ≤ 2000) (c_9 : (0 : Int32) ≤ n4 ∧ n4 ≤ 1000) (tn4 : Nat) (tn4a : 0 ≤ tn4) (tn4b : tn4 ≤ 1000) (tn4e : n4 = nI tn4) (d0_15 : Nat → Int32) (d1_15 : Nat → Int32) (d2_15 : Nat → Int32) (sch_15 : Int32) : tn1 < dm := by
  first | assumption | omega | decide
set_option maxHeartbeats 4000000 in
set_option maxRecDepth 100000 in
theorem c_X11_draw (l : Launch) (D : va_G) (cI cB cZ cJ : ClassId) (tx : List (ClassId × FieldType)) (a : Nat → Nat) (ap : Int32) (sn : Nat) (sk : Nat) (scu : Int32) (sch : Int32) (g0 : Nat → Int32) (g1 : Nat → Int32) (g3 : Nat → Int32) (dm : Nat) (d0 : Nat → Int32) (d1 : Nat → Int32) (d2 : Nat → Int32) (n1 : Int32) (n2 : Int32) (n3 : Int32) (n4 : Int32) (hsn : sn ≤ 24) (hsk : sk ≤ 8) (hdm : dm ≤ 4) : WrI l D cI cB cZ cJ tx yX11_draw cX11_draw 5 (some .int) 4 0 0 [.ref (a 0), .int n1, .int n2, .int n3, .int n4] [(a 0, .inr (11, [.ref (a 1), .ref (a 2), .ref (a 3), .ref (a 4), .ref (a 5), .ref (a 6), .ref (a 7), .ref (a 8), .ref (a 9), .ref (a 10), .ref (a 11), .ref (a 12), .int ap])), (a 5, .inr (4, [.ref (a 18), .ref (a 19), .ref (a 20), .ref (a 21), .ref (a 22), .ref (a 23), .ref (a 24), .int (nI sn), .int (nI sk), .int scu, .int sch])), (a 18, .inl (cI, 384, .inl g0)), (a 19, .inl (cI, 384, .inl g1)), (a 21, .inl (cZ, 384, .inl g3)), (a 6, .inr (0, [.ref (a 5), .ref (a 25), .ref (a 26), .ref (a 27), .ref (a 28), .ref (a 29), .int (nI dm)])), (a 25, .inl (cI, 1536, .inl d0)), (a 26, .inl (cI, 1536, .inl d1)), (a 27, .inl (cZ, 1536, .inl d2))] (fun (r : Int32) (v : (Nat → Int32) × (Nat → Int32) × (Nat → Int32) × (Int32)) => True) (fun v => [(a 0, .inr (11, [.ref (a 1), .ref (a 2), .ref (a 3), .ref (a 4), .ref (a 5), .ref (a 6), .ref (a 7), .ref (a 8), .ref (a 9), .ref (a 10), .ref (a 11), .ref (a 12), .int ap])), (a 5, .inr (4, [.ref (a 18), .ref (a 19), .ref (a 20), .ref (a 21), .ref (a 22), .ref (a 23), .ref (a 24), .int (nI sn), .int (nI sk), .int scu, .int v.2.2.2])), (a 18, .inl (cI, 384, .inl g0)), (a 19, .inl (cI, 384, .inl g1)), (a 21, .inl (cZ, 384, .inl g3)), (a 6, .inr (0, [.ref (a 5), .ref (a 25), .ref (a 26), .ref (a 27), .ref (a 28), .ref (a 29), .int (nI dm)])), (a 25, .inl (cI, 1536, .inl v.1)), (a 26, .inl (cI, 1536, .inl v.2.1)), (a 27, .inl (cZ, 1536, .inl v.2.2.1))]) := by
  refine wri_of2 (by decide) (Nat.le_of_ble_eq_true rfl) ?_
  intro p e s m below meth c A ls H locs hC hK hP hD hA hS hl
  obtain ⟨hx, hb, hr, hml, hown, hts, hlocks, hin⟩ := hC
  have hown : s.vm.findClass RX11 = some m.cls := hown
  have hl : lv_has ls 5 [(0, .ref (a 0)), (1, .int n1), (2, .int n2), (3, .int n3), (4, .int n4)] := hl
  refine lv_aload_n hx hb dX11_draw_0 rfl (lv_at hl 0 rfl) ?_
  refine va_get (D := D) (ci := 11) (v := .ref (a 6)) (C := RX11) (T := TX11) (N := 13) hx hb hts inT_X11 hown hK.1 hP 0 rfl rfl 5 (by decide) (hts _ k_488) (fun _ h9 => h9) rfl dX11_draw_1 ?_
  refine lv_iload_n hx hb dX11_draw_4 rfl (lv_at hl 1 rfl) ?_
  refine eRi (va_runV (As := [.int n1]) (rest := []) ⟨hx, hb, hml, hown, hts⟩ (c_X0_has l D cI cB cZ cJ tx a dm n1 H.size) (zV hts k_899 v_X0_has ⟨Nat.le_of_ble_eq_true rfl, Nat.le_of_ble_eq_true rfl⟩) (pV (px1 hK hP 5 rfl) hK hP 5 rfl rfl) rfl rfl hl.1 rfl (lv_room (Nat.le_of_ble_eq_true rfl)) dX11_draw_5 ⟨Nat.le_of_ble_eq_true rfl, Nat.le_of_ble_eq_true rfl⟩) hP hS hA (fun r_1 H locs wr_1 hP hS => ?_)
  subst wr_1
  refine lv_bi_eq (tgt := 49) hx hb dX11_draw_8 (by decide) (fun c_2 => ?_) (fun c_2 => ?_)
  · refine lv_iconst (v := (-1)) hx hb dX11_draw_49 (by decide) ?_
    exact W.iret (v := (-1)) hx hb hr (fun tt9 ht hW => ⟨⟨((-1) : Int32), ((d0 : Nat → Int32), (d1 : Nat → Int32), (d2 : Nat → Int32), (sch : Int32)), rfl, trivial, ⟨by rw [ht]; exact hP, hD⟩⟩, hS.F ht⟩) hS.2.2 dX11_draw_50 hlocks
  · obtain ⟨tn1, tn1a, tn1e⟩ := of_within (lf_X11_draw_3 a ap sn sk scu sch g0 g1 g3 dm d0 d1 d2 n1 n2 n3 n4 hsn hsk hdm c_2) c_2
    subst tn1e
    refine lv_iload_n hx hb dX11_draw_11 rfl (lv_at hl 2 rfl) ?_
    refine lv_sipush (v := (-2000)) hx hb dX11_draw_12 (by decide) ?_
    refine lv_sipush (v := 2000) hx hb dX11_draw_15 (by decide) ?_
    refine eRi (va_runS (As := [.int n2, .int (-2000), .int 2000]) (rest := []) ⟨hx, hb, hml, hown, hts⟩ (c_X11_within l D cI cB cZ cJ tx n2 (-2000) 2000 H.size) (zS hts k_527 v_X11_within ⟨Nat.le_of_ble_eq_true rfl, Nat.le_of_ble_eq_true rfl⟩) (px0 hK) rfl rfl hl.1 rfl (lv_room (Nat.le_of_ble_eq_true rfl)) dX11_draw_18 ⟨Nat.le_of_ble_eq_true rfl, Nat.le_of_ble_eq_true rfl⟩) hP hS hA (fun r_4 H locs wr_4 hP hS => ?_)
    subst wr_4
    refine lv_bi_eq (tgt := 49) hx hb dX11_draw_21 (by decide) (fun c_5 => ?_) (fun c_5 => ?_)
    · refine lv_iconst (v := (-1)) hx hb dX11_draw_49 (by decide) ?_
      exact W.iret (v := (-1)) hx hb hr (fun tt9 ht hW => ⟨⟨((-1) : Int32), ((d0 : Nat → Int32), (d1 : Nat → Int32), (d2 : Nat → Int32), (sch : Int32)), rfl, trivial, ⟨by rw [ht]; exact hP, hD⟩⟩, hS.F ht⟩) hS.2.2 dX11_draw_50 hlocks
    · refine lv_iload_n hx hb dX11_draw_24 rfl (lv_at hl 3 rfl) ?_
      refine lv_sipush (v := (-2000)) hx hb dX11_draw_25 (by decide) ?_
      refine lv_sipush (v := 2000) hx hb dX11_draw_28 (by decide) ?_
      refine eRi (va_runS (As := [.int n3, .int (-2000), .int 2000]) (rest := []) ⟨hx, hb, hml, hown, hts⟩ (c_X11_within l D cI cB cZ cJ tx n3 (-2000) 2000 H.size) (zS hts k_527 v_X11_within ⟨Nat.le_of_ble_eq_true rfl, Nat.le_of_ble_eq_true rfl⟩) (px0 hK) rfl rfl hl.1 rfl (lv_room (Nat.le_of_ble_eq_true rfl)) dX11_draw_31 ⟨Nat.le_of_ble_eq_true rfl, Nat.le_of_ble_eq_true rfl⟩) hP hS hA (fun r_6 H locs wr_6 hP hS => ?_)
      subst wr_6
      refine lv_bi_eq (tgt := 49) hx hb dX11_draw_34 (by decide) (fun c_7 => ?_) (fun c_7 => ?_)
      · refine lv_iconst (v := (-1)) hx hb dX11_draw_49 (by decide) ?_
        exact W.iret (v := (-1)) hx hb hr (fun tt9 ht hW => ⟨⟨((-1) : Int32), ((d0 : Nat → Int32), (d1 : Nat → Int32), (d2 : Nat → Int32), (sch : Int32)), rfl, trivial, ⟨by rw [ht]; exact hP, hD⟩⟩, hS.F ht⟩) hS.2.2 dX11_draw_50 hlocks
      · refine lv_iload hx hb dX11_draw_37 (lv_at hl 4 rfl) ?_
        refine lv_iconst (v := 0) hx hb dX11_draw_39 (by decide) ?_
        refine lv_sipush (v := 1000) hx hb dX11_draw_40 (by decide) ?_
        refine eRi (va_runS (As := [.int n4, .int 0, .int 1000]) (rest := []) ⟨hx, hb, hml, hown, hts⟩ (c_X11_within l D cI cB cZ cJ tx n4 0 1000 H.size) (zS hts k_527 v_X11_within ⟨Nat.le_of_ble_eq_true rfl, Nat.le_of_ble_eq_true rfl⟩) (px0 hK) rfl rfl hl.1 rfl (lv_room (Nat.le_of_ble_eq_true rfl)) dX11_draw_43 ⟨Nat.le_of_ble_eq_true rfl, Nat.le_of_ble_eq_true rfl⟩) hP hS hA (fun r_8 H locs wr_8 hP hS => ?_)
        subst wr_8
        refine lv_bi_ne (tgt := 51) hx hb dX11_draw_46 (by decide) (fun c_9 => ?_) (fun c_9 => ?_)
        · obtain ⟨tn4, tn4a, tn4b, tn4e⟩ := of_rng 0 1000 rfl rfl c_9
          subst tn4e
          refine lv_aload_n hx hb dX11_draw_51 rfl (lv_at hl 0 rfl) ?_
          refine va_get (D := D) (ci := 11) (v := .ref (a 6)) (C := RX11) (T := TX11) (N := 13) hx hb hts inT_X11 hown hK.1 hP 0 rfl rfl 5 (by decide) (hts _ k_488) (fun _ h9 => h9) rfl dX11_draw_52 ?_
          refine lv_iload_n hx hb dX11_draw_55 rfl (lv_at hl 1 rfl) ?_
          refine lv_iload_n hx hb dX11_draw_56 rfl (lv_at hl 2 rfl) ?_
          refine lv_iload_n hx hb dX11_draw_57 rfl (lv_at hl 3 rfl) ?_
          refine lv_iload hx hb dX11_draw_58 (lv_at hl 4 rfl) ?_
          refine eWv (wr := [(a 0, .inr (11, [.ref (a 1), .ref (a 2), .ref (a 3), .ref (a 4), .ref (a 5), .ref (a 6), .ref (a 7), .ref (a 8), .ref (a 9), .ref (a 10), .ref (a 11), .ref (a 12), .int ap]))]) (va_runV (As := [.int (nI tn1), .int n2, .int n3, .int (nI tn4)]) (rest := []) ⟨hx, hb, hml, hown, hts⟩ (c_X0_take l D cI cB cZ cJ tx a dm d0 d1 d2 sn sk scu sch g0 g1 g3 tn1 n2 n3 (nI tn4) (lf_X11_draw_10 a ap sn sk scu sch g0 g1 g3 dm d0 d1 d2 (nI tn1) n2 n3 (nI tn4) hsn hsk hdm c_2 tn1 tn1a rfl c_5 c_7 c_9 tn4 tn4a tn4b rfl) (lf_X11_draw_11 a ap sn sk scu sch g0 g1 g3 dm d0 d1 d2 (nI tn1) n2 n3 (nI tn4) hsn hsk hdm c_2 tn1 tn1a rfl c_5 c_7 c_9 tn4 tn4a tn4b rfl) (lf_X11_draw_12 a ap sn sk scu sch g0 g1 g3 dm d0 d1 d2 (nI tn1) n2 n3 (nI tn4) hsn hsk hdm c_2 tn1 tn1a rfl c_5 c_7 c_9 tn4 tn4a tn4b rfl) (lf_X11_draw_13 a ap sn sk scu sch g0 g1 g3 dm d0 d1 d2 (nI tn1) n2 n3 (nI tn4) hsn hsk hdm c_2 tn1 tn1a rfl c_5 c_7 c_9 tn4 tn4a tn4b rfl) H.size) (zV hts k_912 v_X0_take ⟨Nat.le_of_ble_eq_true rfl, Nat.le_of_ble_eq_true rfl⟩) (pV (pxS hK hP hD [5, 6, 7, 8, 1, 2, 3, 4] (by decide) rfl) hK hP 5 rfl rfl) rfl rfl hl.1 rfl (lv_room (Nat.le_of_ble_eq_true rfl)) dX11_draw_60 ⟨Nat.le_of_ble_eq_true rfl, Nat.le_of_ble_eq_true rfl⟩) hP hD hS hA [5, 6, 7, 8, 1, 2, 3, 4] [0] rfl rfl (by decide) (by decide) (fun u_15 H locs wr_14 hP hD hS => ?_)
          obtain ⟨d0_15, d1_15, d2_15, sch_15⟩ := u_15
          have hP : va_P D vwCl [(a 0, .inr (11, [.ref (a 1), .ref (a 2), .ref (a 3), .ref (a 4), .ref (a 5), .ref (a 6), .ref (a 7), .ref (a 8), .ref (a 9), .ref (a 10), .ref (a 11), .ref (a 12), .int ap])), (a 6, .inr (0, [.ref (a 5), .ref (a 25), .ref (a 26), .ref (a 27), .ref (a 28), .ref (a 29), .int (nI dm)])), (a 25, .inl (cI, 1536, .inl d0_15)), (a 26, .inl (cI, 1536, .inl d1_15)), (a 27, .inl (cZ, 1536, .inl d2_15)), (a 5, .inr (4, [.ref (a 18), .ref (a 19), .ref (a 20), .ref (a 21), .ref (a 22), .ref (a 23), .ref (a 24), .int (nI sn), .int (nI sk), .int scu, .int sch_15])), (a 18, .inl (cI, 384, .inl g0)), (a 19, .inl (cI, 384, .inl g1)), (a 21, .inl (cZ, 384, .inl g3))] H := hP
          have hD : va_D A [(a 0, .inr (11, [.ref (a 1), .ref (a 2), .ref (a 3), .ref (a 4), .ref (a 5), .ref (a 6), .ref (a 7), .ref (a 8), .ref (a 9), .ref (a 10), .ref (a 11), .ref (a 12), .int ap])), (a 6, .inr (0, [.ref (a 5), .ref (a 25), .ref (a 26), .ref (a 27), .ref (a 28), .ref (a 29), .int (nI dm)])), (a 25, .inl (cI, 1536, .inl d0_15)), (a 26, .inl (cI, 1536, .inl d1_15)), (a 27, .inl (cZ, 1536, .inl d2_15)), (a 5, .inr (4, [.ref (a 18), .ref (a 19), .ref (a 20), .ref (a 21), .ref (a 22), .ref (a 23), .ref (a 24), .int (nI sn), .int (nI sk), .int scu, .int sch_15])), (a 18, .inl (cI, 384, .inl g0)), (a 19, .inl (cI, 384, .inl g1)), (a 21, .inl (cZ, 384, .inl g3))] := hD
          refine lv_aload_n hx hb dX11_draw_63 rfl (lv_at hl 0 rfl) ?_
          refine va_get (D := D) (ci := 11) (v := .ref (a 6)) (C := RX11) (T := TX11) (N := 13) hx hb hts inT_X11 hown hK.1 hP 0 rfl rfl 5 (by decide) (hts _ k_488) (fun _ h9 => h9) rfl dX11_draw_64 ?_
          refine lv_iload_n hx hb dX11_draw_67 rfl (lv_at hl 1 rfl) ?_
          refine eRi (va_runV (As := [.int (nI tn1)]) (rest := []) ⟨hx, hb, hml, hown, hts⟩ (c_X0_marksOf l D cI cB cZ cJ tx a dm d2_15 tn1 (lf_X11_draw_16 a ap sn sk scu sch g0 g1 g3 dm d0 d1 d2 (nI tn1) n2 n3 (nI tn4) hsn hsk hdm c_2 tn1 tn1a rfl c_5 c_7 c_9 tn4 tn4a tn4b rfl d0_15 d1_15 d2_15 sch_15) (lf_X11_draw_17 a ap sn sk scu sch g0 g1 g3 dm d0 d1 d2 (nI tn1) n2 n3 (nI tn4) hsn hsk hdm c_2 tn1 tn1a rfl c_5 c_7 c_9 tn4 tn4a tn4b rfl d0_15 d1_15 d2_15 sch_15) H.size) (zV hts k_920 v_X0_marksOf ⟨Nat.le_of_ble_eq_true rfl, Nat.le_of_ble_eq_true rfl⟩) (pV (pxS hK hP hD [1, 4] (by decide) rfl) hK hP 1 rfl rfl) rfl rfl hl.1 rfl (lv_room (Nat.le_of_ble_eq_true rfl)) dX11_draw_68 ⟨Nat.le_of_ble_eq_true rfl, Nat.le_of_ble_eq_true rfl⟩) hP hS hA (fun r_18 H locs wr_18 hP hS => ?_)
          have hP := hP.sub (ws' := [(a 0, .inr (11, [.ref (a 1), .ref (a 2), .ref (a 3), .ref (a 4), .ref (a 5), .ref (a 6), .ref (a 7), .ref (a 8), .ref (a 9), .ref (a 10), .ref (a 11), .ref (a 12), .int ap])), (a 5, .inr (4, [.ref (a 18), .ref (a 19), .ref (a 20), .ref (a 21), .ref (a 22), .ref (a 23), .ref (a 24), .int (nI sn), .int (nI sk), .int scu, .int sch_15])), (a 18, .inl (cI, 384, .inl g0)), (a 19, .inl (cI, 384, .inl g1)), (a 21, .inl (cZ, 384, .inl g3)), (a 6, .inr (0, [.ref (a 5), .ref (a 25), .ref (a 26), .ref (a 27), .ref (a 28), .ref (a 29), .int (nI dm)])), (a 25, .inl (cI, 1536, .inl d0_15)), (a 26, .inl (cI, 1536, .inl d1_15)), (a 27, .inl (cZ, 1536, .inl d2_15))]) [0, 5, 6, 7, 8, 1, 2, 3, 4] rfl
          have hD := hD.sub (ws' := [(a 0, .inr (11, [.ref (a 1), .ref (a 2), .ref (a 3), .ref (a 4), .ref (a 5), .ref (a 6), .ref (a 7), .ref (a 8), .ref (a 9), .ref (a 10), .ref (a 11), .ref (a 12), .int ap])), (a 5, .inr (4, [.ref (a 18), .ref (a 19), .ref (a 20), .ref (a 21), .ref (a 22), .ref (a 23), .ref (a 24), .int (nI sn), .int (nI sk), .int scu, .int sch_15])), (a 18, .inl (cI, 384, .inl g0)), (a 19, .inl (cI, 384, .inl g1)), (a 21, .inl (cZ, 384, .inl g3)), (a 6, .inr (0, [.ref (a 5), .ref (a 25), .ref (a 26), .ref (a 27), .ref (a 28), .ref (a 29), .int (nI dm)])), (a 25, .inl (cI, 1536, .inl d0_15)), (a 26, .inl (cI, 1536, .inl d1_15)), (a 27, .inl (cZ, 1536, .inl d2_15))]) [0, 5, 6, 7, 8, 1, 2, 3, 4] (by decide) rfl
          exact W.iret (v := r_18) hx hb hr (fun tt9 ht hW => ⟨⟨(r_18 : Int32), ((d0_15 : Nat → Int32), (d1_15 : Nat → Int32), (d2_15 : Nat → Int32), (sch_15 : Int32)), rfl, trivial, ⟨by rw [ht]; exact hP, hD⟩⟩, hS.F ht⟩) hS.2.2 dX11_draw_71 hlocks
        · refine lv_iconst (v := (-1)) hx hb dX11_draw_49 (by decide) ?_
          exact W.iret (v := (-1)) hx hb hr (fun tt9 ht hW => ⟨⟨((-1) : Int32), ((d0 : Nat → Int32), (d1 : Nat → Int32), (d2 : Nat → Int32), (sch : Int32)), rfl, trivial, ⟨by rw [ht]; exact hP, hD⟩⟩, hS.F ht⟩) hS.2.2 dX11_draw_50 hlocks

theorem lf_X11_joined_1 (a : Nat → Nat) (ap : Int32) (dm : Nat) (d0 : Nat → Int32) (d1 : Nat → Int32) (d2 : Nat → Int32) (d3 : Nat → Int32) (n1 : Int32) (n2 : Int32) (n3 : Int32) (hdm : dm ≤ 4) : dm ≤ 4 := by
  first | assumption | omega | decide
theorem lf_X11_joined_5 (a : Nat → Nat) (ap : Int32) (dm : Nat) (d0 : Nat → Int32) (d1 : Nat → Int32) (d2 : Nat → Int32) (d3 : Nat → Int32) (n1 : Int32) (n2 : Int32) (n3 : Int32) (hdm : dm ≤ 4) (ff2 : Nat) (gg2 : Nat) (hff2 : ff2 < dm) (hgg2 : gg2 < dm) (c_4 : (0 : Int32) ≤ n3 ∧ n3 ≤ 4) (tn3 : Nat) (tn3a : 0 ≤ tn3) (tn3b : tn3 ≤ 4) (tn3e : n3 = nI tn3) : dm ≤ 4 := by
  first | assumption | omega | decide
theorem lf_X11_joined_6 (a : Nat → Nat) (ap : Int32) (dm : Nat) (d0 : Nat → Int32) (d1 : Nat → Int32) (d2 : Nat → Int32) (d3 : Nat → Int32) (n1 : Int32) (n2 : Int32) (n3 : Int32) (hdm : dm ≤ 4) (ff2 : Nat) (gg2 : Nat) (hff2 : ff2 < dm) (hgg2 : gg2 < dm) (c_4 : (0 : Int32) ≤ n3 ∧ n3 ≤ 4) (tn3 : Nat) (tn3a : 0 ≤ tn3) (tn3b : tn3 ≤ 4) (tn3e : n3 = nI tn3) : ff2 < dm := by
  first | assumption | omega | decide
theorem lf_X11_joined_7 (a : Nat → Nat) (ap : Int32) (dm : Nat) (d0 : Nat → Int32) (d1 : Nat → Int32) (d2 : Nat → Int32) (d3 : Nat → Int32) (n1 : Int32) (n2 : Int32) (n3 : Int32) (hdm : dm ≤ 4) (ff2 : Nat) (gg2 : Nat) (hff2 : ff2 < dm) (hgg2 : gg2 < dm) (c_4 : (0 : Int32) ≤ n3 ∧ n3 ≤ 4) (tn3 : Nat) (tn3a : 0 ≤ tn3) (tn3b : tn3 ≤ 4) (tn3e : n3 = nI tn3) : gg2 < dm := by
  first | assumption | omega | decide
theorem lf_X11_joined_13 (a : Nat → Nat) (ap : Int32) (dm : Nat) (d0 : Nat → Int32) (d1 : Nat → Int32) (d2 : Nat → Int32) (d3 : Nat → Int32) (n1 : Int32) (n2 : Int32) (n3 : Int32) (hdm : dm ≤ 4) (ff2 : Nat) (gg2 : Nat) (hff2 : ff2 < dm) (hgg2 : gg2 < dm) (c_4 : (0 : Int32) ≤ n3 ∧ n3 ≤ 4) (tn3 : Nat) (tn3a : 0 ≤ tn3) (tn3b : tn3 ≤ 4) (tn3e : n3 = nI tn3) (d3_9 : Nat → Int32) (mm_10 : Nat) (hmm_10 : mm_10 ≤ 384) (c_11 : ¬ nI tn3 = 2) : tn3 ≠ 2 := by
  exact fun q => c_11 ((nI_eq (a := tn3) (b := 2) (by omega) (by omega)).mpr q)
theorem lf_X11_joined_16 (a : Nat → Nat) (ap : Int32) (dm : Nat) (d0 : Nat → Int32) (d1 : Nat → Int32) (d2 : Nat → Int32) (d3 : Nat → Int32) (n1 : Int32) (n2 : Int32) (n3 : Int32) (hdm : dm ≤ 4) (ff2 : Nat) (gg2 : Nat) (hff2 : ff2 < dm) (hgg2 : gg2 < dm) (c_4 : (0 : Int32) ≤ n3 ∧ n3 ≤ 4) (tn3 : Nat) (tn3a : 0 ≤ tn3) (tn3b : tn3 ≤ 4) (tn3e : n3 = nI tn3) (d3_9 : Nat → Int32) (mm_10 : Nat) (hmm_10 : mm_10 ≤ 384) (c_11 : ¬ nI tn3 = 2) (n_12 : tn3 ≠ 2) (c_14 : ¬ nI mm_10 = 0) : mm_10 ≠ 0 := by
  exact fun q => c_14 ((nI_eq (a := mm_10) (b := 0) (by omega) (by omega)).mpr q)
theorem lf_X11_joined_19 (a : Nat → Nat) (ap : Int32) (dm : Nat) (d0 : Nat → Int32) (d1 : Nat → Int32) (d2 : Nat → Int32) (d3 : Nat → Int32) (n1 : Int32) (n2 : Int32) (n3 : Int32) (hdm : dm ≤ 4) (ff2 : Nat) (gg2 : Nat) (hff2 : ff2 < dm) (hgg2 : gg2 < dm) (c_4 : (0 : Int32) ≤ n3 ∧ n3 ≤ 4) (tn3 : Nat) (tn3a : 0 ≤ tn3) (tn3b : tn3 ≤ 4) (tn3e : n3 = nI tn3) (d3_9 : Nat → Int32) (mm_10 : Nat) (hmm_10 : mm_10 ≤ 384) (c_11 : ¬ nI tn3 = 2) (n_12 : tn3 ≠ 2) (c_14 : ¬ nI mm_10 = 0) (n_15 : mm_10 ≠ 0) (c_17 : 2 ≤ nI tn3) : 2 ≤ tn3 := by
  exact (nI_leI (a := 2) (b := tn3) (by omega) (by omega)).mp c_17
theorem lf_X11_joined_21 (a : Nat → Nat) (ap : Int32) (dm : Nat) (d0 : Nat → Int32) (d1 : Nat → Int32) (d2 : Nat → Int32) (d3 : Nat → Int32) (n1 : Int32) (n2 : Int32) (n3 : Int32) (hdm : dm ≤ 4) (ff2 : Nat) (gg2 : Nat) (hff2 : ff2 < dm) (hgg2 : gg2 < dm) (c_4 : (0 : Int32) ≤ n3 ∧ n3 ≤ 4) (tn3 : Nat) (tn3a : 0 ≤ tn3) (tn3b : tn3 ≤ 4) (tn3e : n3 = nI tn3) (d3_9 : Nat → Int32) (mm_10 : Nat) (hmm_10 : mm_10 ≤ 384) (c_11 : ¬ nI tn3 = 2) (n_12 : tn3 ≠ 2) (c_14 : ¬ nI mm_10 = 0) (n_15 : mm_10 ≠ 0) (c_17 : 2 ≤ nI tn3) (n_18 : 2 ≤ tn3) (x_20 : Int32) (ex_20 : x_20 = nI tn3 - 3) : dm ≤ 4 := by
  first | assumption | omega | decide
theorem lf_X11_joined_22 (a : Nat → Nat) (ap : Int32) (dm : Nat) (d0 : Nat → Int32) (d1 : Nat → Int32) (d2 : Nat → Int32) (d3 : Nat → Int32) (n1 : Int32) (n2 : Int32) (n3 : Int32) (hdm : dm ≤ 4) (ff2 : Nat) (gg2 : Nat) (hff2 : ff2 < dm) (hgg2 : gg2 < dm) (c_4 : (0 : Int32) ≤ n3 ∧ n3 ≤ 4) (tn3 : Nat) (tn3a : 0 ≤ tn3) (tn3b : tn3 ≤ 4) (tn3e : n3 = nI tn3) (d3_9 : Nat → Int32) (mm_10 : Nat) (hmm_10 : mm_10 ≤ 384) (c_11 : ¬ nI tn3 = 2) (n_12 : tn3 ≠ 2) (c_14 : ¬ nI mm_10 = 0) (n_15 : mm_10 ≠ 0) (c_17 : 2 ≤ nI tn3) (n_18 : 2 ≤ tn3) (x_20 : Int32) (ex_20 : x_20 = nI tn3 - 3) : ff2 < dm := by
  first | assumption | omega | decide
theorem lf_X11_joined_23 (a : Nat → Nat) (ap : Int32) (dm : Nat) (d0 : Nat → Int32) (d1 : Nat → Int32) (d2 : Nat → Int32) (d3 : Nat → Int32) (n1 : Int32) (n2 : Int32) (n3 : Int32) (hdm : dm ≤ 4) (ff2 : Nat) (gg2 : Nat) (hff2 : ff2 < dm) (hgg2 : gg2 < dm) (c_4 : (0 : Int32) ≤ n3 ∧ n3 ≤ 4) (tn3 : Nat) (tn3a : 0 ≤ tn3) (tn3b : tn3 ≤ 4) (tn3e : n3 = nI tn3) (d3_9 : Nat → Int32) (mm_10 : Nat) (hmm_10 : mm_10 ≤ 384) (c_11 : ¬ nI tn3 = 2) (n_12 : tn3 ≠ 2) (c_14 : ¬ nI mm_10 = 0) (n_15 : mm_10 ≠ 0) (c_17 : 2 ≤ nI tn3) (n_18 : 2 ≤ tn3) (x_20 : Int32) (ex_20 : x_20 = nI tn3 - 3) : gg2 < dm := by
  first | assumption | omega | decide
theorem lf_X11_joined_27 (a : Nat → Nat) (ap : Int32) (dm : Nat) (d0 : Nat → Int32) (d1 : Nat → Int32) (d2 : Nat → Int32) (d3 : Nat → Int32) (n1 : Int32) (n2 : Int32) (n3 : Int32) (hdm : dm ≤ 4) (ff2 : Nat) (gg2 : Nat) (hff2 : ff2 < dm) (hgg2 : gg2 < dm) (c_4 : (0 : Int32) ≤ n3 ∧ n3 ≤ 4) (tn3 : Nat) (tn3a : 0 ≤ tn3) (tn3b : tn3 ≤ 4) (tn3e : n3 = nI tn3) (d3_9 : Nat → Int32) (mm_10 : Nat) (hmm_10 : mm_10 ≤ 384) (c_11 : ¬ nI tn3 = 2) (n_12 : tn3 ≠ 2) (c_14 : ¬ nI mm_10 = 0) (n_15 : mm_10 ≠ 0) (c_17 : ¬ 2 ≤ nI tn3) : tn3 < 2 := by
  exact Nat.lt_of_not_le (fun q => c_17 ((nI_leI (a := 2) (b := tn3) (by omega) (by omega)).mpr q))
theorem lf_X11_joined_28 (a : Nat → Nat) (ap : Int32) (dm : Nat) (d0 : Nat → Int32) (d1 : Nat → Int32) (d2 : Nat → Int32) (d3 : Nat → Int32) (n1 : Int32) (n2 : Int32) (n3 : Int32) (hdm : dm ≤ 4) (ff2 : Nat) (gg2 : Nat) (hff2 : ff2 < dm) (hgg2 : gg2 < dm) (c_4 : (0 : Int32) ≤ n3 ∧ n3 ≤ 4) (tn3 : Nat) (tn3a : 0 ≤ tn3) (tn3b : tn3 ≤ 4) (tn3e : n3 = nI tn3) (d3_9 : Nat → Int32) (mm_10 : Nat) (hmm_10 : mm_10 ≤ 384) (c_11 : ¬ nI tn3 = 2) (n_12 : tn3 ≠ 2) (c_14 : ¬ nI mm_10 = 0) (n_15 : mm_10 ≠ 0) (c_17 : ¬ 2 ≤ nI tn3) (n_26 : tn3 < 2) : dm ≤ 4 := by
  first | assumption | omega | decide
theorem lf_X11_joined_29 (a : Nat → Nat) (ap : Int32) (dm : Nat) (d0 : Nat → Int32) (d1 : Nat → Int32) (d2 : Nat → Int32) (d3 : Nat → Int32) (n1 : Int32) (n2 : Int32) (n3 : Int32) (hdm : dm ≤ 4) (ff2 : Nat) (gg2 : Nat) (hff2 : ff2 < dm) (hgg2 : gg2 < dm) (c_4 : (0 : Int32) ≤ n3 ∧ n3 ≤ 4) (tn3 : Nat) (tn3a : 0 ≤ tn3) (tn3b : tn3 ≤ 4) (tn3e : n3 = nI tn3) (d3_9 : Nat → Int32) (mm_10 : Nat) (hmm_10 : mm_10 ≤ 384) (c_11 : ¬ nI tn3 = 2) (n_12 : tn3 ≠ 2) (c_14 : ¬ nI mm_10 = 0) (n_15 : mm_10 ≠ 0) (c_17 : ¬ 2 ≤ nI tn3) (n_26 : tn3 < 2) : ff2 < dm := by
  first | assumption | omega | decide
theorem lf_X11_joined_30 (a : Nat → Nat) (ap : Int32) (dm : Nat) (d0 : Nat → Int32) (d1 : Nat → Int32) (d2 : Nat → Int32) (d3 : Nat → Int32) (n1 : Int32) (n2 : Int32) (n3 : Int32) (hdm : dm ≤ 4) (ff2 : Nat) (gg2 : Nat) (hff2 : ff2 < dm) (hgg2 : gg2 < dm) (c_4 : (0 : Int32) ≤ n3 ∧ n3 ≤ 4) (tn3 : Nat) (tn3a : 0 ≤ tn3) (tn3b : tn3 ≤ 4) (tn3e : n3 = nI tn3) (d3_9 : Nat → Int32) (mm_10 : Nat) (hmm_10 : mm_10 ≤ 384) (c_11 : ¬ nI tn3 = 2) (n_12 : tn3 ≠ 2) (c_14 : ¬ nI mm_10 = 0) (n_15 : mm_10 ≠ 0) (c_17 : ¬ 2 ≤ nI tn3) (n_26 : tn3 < 2) : gg2 < dm := by
  first | assumption | omega | decide
theorem lf_X11_joined_34 (a : Nat → Nat) (ap : Int32) (dm : Nat) (d0 : Nat → Int32) (d1 : Nat → Int32) (d2 : Nat → Int32) (d3 : Nat → Int32) (n1 : Int32) (n2 : Int32) (n3 : Int32) (hdm : dm ≤ 4) (ff2 : Nat) (gg2 : Nat) (hff2 : ff2 < dm) (hgg2 : gg2 < dm) (c_4 : (0 : Int32) ≤ n3 ∧ n3 ≤ 4) (tn3 : Nat) (tn3a : 0 ≤ tn3) (tn3b : tn3 ≤ 4) (tn3e : n3 = nI tn3) (d3_9 : Nat → Int32) (mm_10 : Nat) (hmm_10 : mm_10 ≤ 384) (c_11 : ¬ nI tn3 = 2) (n_12 : tn3 ≠ 2) (c_14 : nI mm_10 = 0) : mm_10 = 0 := by
  exact (nI_eq (a := mm_10) (b := 0) (by omega) (by omega)).mp c_14
theorem lf_X11_joined_36 (a : Nat → Nat) (ap : Int32) (dm : Nat) (d0 : Nat → Int32) (d1 : Nat → Int32) (d2 : Nat → Int32) (d3 : Nat → Int32) (n1 : Int32) (n2 : Int32) (n3 : Int32) (hdm : dm ≤ 4) (ff2 : Nat) (gg2 : Nat) (hff2 : ff2 < dm) (hgg2 : gg2 < dm) (c_4 : (0 : Int32) ≤ n3 ∧ n3 ≤ 4) (tn3 : Nat) (tn3a : 0 ≤ tn3) (tn3b : tn3 ≤ 4) (tn3e : n3 = nI tn3) (d3_9 : Nat → Int32) (mm_10 : Nat) (hmm_10 : mm_10 ≤ 384) (c_11 : nI tn3 = 2) : tn3 = 2 := by
  exact (nI_eq (a := tn3) (b := 2) (by omega) (by omega)).mp c_11
set_option maxHeartbeats 4000000 in
set_option maxRecDepth 100000 in
theorem c_X11_joined (l : Launch) (D : va_G) (cI cB cZ cJ : ClassId) (tx : List (ClassId × FieldType)) (a : Nat → Nat) (ap : Int32) (dm : Nat) (d0 : Nat → Int32) (d1 : Nat → Int32) (d2 : Nat → Int32) (d3 : Nat → Int32) (n1 : Int32) (n2 : Int32) (n3 : Int32) (hdm : dm ≤ 4) : WrI l D cI cB cZ cJ tx yX11_joined cX11_joined 5 (some .int) 5 0 0 [.ref (a 0), .int n1, .int n2, .int n3] [(a 0, .inr (11, [.ref (a 1), .ref (a 2), .ref (a 3), .ref (a 4), .ref (a 5), .ref (a 6), .ref (a 7), .ref (a 8), .ref (a 9), .ref (a 10), .ref (a 11), .ref (a 12), .int ap])), (a 6, .inr (0, [.ref (a 5), .ref (a 25), .ref (a 26), .ref (a 27), .ref (a 28), .ref (a 29), .int (nI dm)])), (a 25, .inl (cI, 1536, .inl d0)), (a 26, .inl (cI, 1536, .inl d1)), (a 27, .inl (cZ, 1536, .inl d2)), (a 28, .inl (cI, 384, .inl d3))] (fun (r : Int32) (v : (Nat → Int32)) => True) (fun v => [(a 0, .inr (11, [.ref (a 1), .ref (a 2), .ref (a 3), .ref (a 4), .ref (a 5), .ref (a 6), .ref (a 7), .ref (a 8), .ref (a 9), .ref (a 10), .ref (a 11), .ref (a 12), .int ap])), (a 6, .inr (0, [.ref (a 5), .ref (a 25), .ref (a 26), .ref (a 27), .ref (a 28), .ref (a 29), .int (nI dm)])), (a 25, .inl (cI, 1536, .inl d0)), (a 26, .inl (cI, 1536, .inl d1)), (a 27, .inl (cZ, 1536, .inl d2)), (a 28, .inl (cI, 384, .inl v))]) := by
  refine wri_of2 (by decide) (Nat.le_of_ble_eq_true rfl) ?_
  intro p e s m below meth c A ls H locs hC hK hP hD hA hS hl
  obtain ⟨hx, hb, hr, hml, hown, hts, hlocks, hin⟩ := hC
  have hown : s.vm.findClass RX11 = some m.cls := hown
  have hl : lv_has ls 5 [(0, .ref (a 0)), (1, .int n1), (2, .int n2), (3, .int n3)] := hl
  refine lv_aload_n hx hb dX11_joined_0 rfl (lv_at hl 0 rfl) ?_
  refine va_get (D := D) (ci := 11) (v := .ref (a 6)) (C := RX11) (T := TX11) (N := 13) hx hb hts inT_X11 hown hK.1 hP 0 rfl rfl 5 (by decide) (hts _ k_488) (fun _ h9 => h9) rfl dX11_joined_1 ?_
  refine lv_iload_n hx hb dX11_joined_4 rfl (lv_at hl 1 rfl) ?_
  refine lv_iload_n hx hb dX11_joined_5 rfl (lv_at hl 2 rfl) ?_
  refine eRi (va_runV (As := [.int n1, .int n2]) (rest := []) ⟨hx, hb, hml, hown, hts⟩ (c_X0_areTwo l D cI cB cZ cJ tx a dm n1 n2 (lf_X11_joined_1 a ap dm d0 d1 d2 d3 n1 n2 n3 hdm) H.size) (zV hts k_942 v_X0_areTwo ⟨Nat.le_of_ble_eq_true rfl, Nat.le_of_ble_eq_true rfl⟩) (pV (px1 hK hP 1 rfl) hK hP 1 rfl rfl) rfl rfl hl.1 rfl (lv_room (Nat.le_of_ble_eq_true rfl)) dX11_joined_6 ⟨Nat.le_of_ble_eq_true rfl, Nat.le_of_ble_eq_true rfl⟩) hP hS hA (fun r_2 H locs wr_2 hP hS => ?_)
  rcases wr_2 with rfl | ⟨ff2, gg2, hff2, hgg2, rfl, rfl, rfl⟩
  · refine lv_if_eq (tgt := 21) hx hb dX11_joined_9 (by decide) (fun _ => ?_) (fun c => absurd c (by decide))
    refine lv_ldc (v := (-1000000)) hx hb hown (hts _ k_946) dX11_joined_21 ?_
    exact W.iret (v := (-1000000)) hx hb hr (fun tt9 ht hW => ⟨⟨((-1000000) : Int32), ((d3 : Nat → Int32)), rfl, trivial, ⟨by rw [ht]; exact hP, hD⟩⟩, hS.F ht⟩) hS.2.2 dX11_joined_23 hlocks
  · refine lv_if_eq (tgt := 21) hx hb dX11_joined_9 (by decide) (fun c => absurd c (by decide)) (fun _ => ?_)
    refine lv_iload_n hx hb dX11_joined_12 rfl (lv_at hl 3 rfl) ?_
    refine lv_iconst (v := 0) hx hb dX11_joined_13 (by decide) ?_
    refine lv_iconst (v := 4) hx hb dX11_joined_14 (by decide) ?_
    refine eRi (va_runS (As := [.int n3, .int 0, .int 4]) (rest := []) ⟨hx, hb, hml, hown, hts⟩ (c_X11_within l D cI cB cZ cJ tx n3 0 4 H.size) (zS hts k_527 v_X11_within ⟨Nat.le_of_ble_eq_true rfl, Nat.le_of_ble_eq_true rfl⟩) (px0 hK) rfl rfl hl.1 rfl (lv_room (Nat.le_of_ble_eq_true rfl)) dX11_joined_15 ⟨Nat.le_of_ble_eq_true rfl, Nat.le_of_ble_eq_true rfl⟩) hP hS hA (fun r_3 H locs wr_3 hP hS => ?_)
    subst wr_3
    refine lv_bi_ne (tgt := 24) hx hb dX11_joined_18 (by decide) (fun c_4 => ?_) (fun c_4 => ?_)
    · obtain ⟨tn3, tn3a, tn3b, tn3e⟩ := of_rng 0 4 rfl rfl c_4
      subst tn3e
      refine lv_aload_n hx hb dX11_joined_24 rfl (lv_at hl 0 rfl) ?_
      refine va_get (D := D) (ci := 11) (v := .ref (a 6)) (C := RX11) (T := TX11) (N := 13) hx hb hts inT_X11 hown hK.1 hP 0 rfl rfl 5 (by decide) (hts _ k_488) (fun _ h9 => h9) rfl dX11_joined_25 ?_
      refine lv_iload_n hx hb dX11_joined_28 rfl (lv_at hl 1 rfl) ?_
      refine lv_iload_n hx hb dX11_joined_29 rfl (lv_at hl 2 rfl) ?_
      refine eWi (wr := [(a 0, .inr (11, [.ref (a 1), .ref (a 2), .ref (a 3), .ref (a 4), .ref (a 5), .ref (a 6), .ref (a 7), .ref (a 8), .ref (a 9), .ref (a 10), .ref (a 11), .ref (a 12), .int ap]))]) (va_runV (As := [.int (nI ff2), .int (nI gg2)]) (rest := []) ⟨hx, hb, hml, hown, hts⟩ (c_X0_common l D cI cB cZ cJ tx a dm d0 d1 d2 d3 ff2 gg2 (lf_X11_joined_5 a ap dm d0 d1 d2 d3 (nI ff2) (nI gg2) (nI tn3) hdm ff2 gg2 hff2 hgg2 c_4 tn3 tn3a tn3b rfl) (lf_X11_joined_6 a ap dm d0 d1 d2 d3 (nI ff2) (nI gg2) (nI tn3) hdm ff2 gg2 hff2 hgg2 c_4 tn3 tn3a tn3b rfl) (lf_X11_joined_7 a ap dm d0 d1 d2 d3 (nI ff2) (nI gg2) (nI tn3) hdm ff2 gg2 hff2 hgg2 c_4 tn3 tn3a tn3b rfl) H.size) (zV hts k_947 v_X0_common ⟨Nat.le_of_ble_eq_true rfl, Nat.le_of_ble_eq_true rfl⟩) (pV (pxS hK hP hD [1, 2, 3, 4, 5] (by decide) rfl) hK hP 1 rfl rfl) rfl rfl hl.1 rfl (lv_room (Nat.le_of_ble_eq_true rfl)) dX11_joined_30 ⟨Nat.le_of_ble_eq_true rfl, Nat.le_of_ble_eq_true rfl⟩) hP hD hS hA [1, 2, 3, 4, 5] [0] rfl rfl (by decide) (by decide) (fun r_8 u_9 H locs wr_8 hP hD hS => ?_)
      obtain ⟨d3_9, rfl⟩ : ∃ z, z = u_9 := ⟨_, rfl⟩
      have hP : va_P D vwCl [(a 0, .inr (11, [.ref (a 1), .ref (a 2), .ref (a 3), .ref (a 4), .ref (a 5), .ref (a 6), .ref (a 7), .ref (a 8), .ref (a 9), .ref (a 10), .ref (a 11), .ref (a 12), .int ap])), (a 6, .inr (0, [.ref (a 5), .ref (a 25), .ref (a 26), .ref (a 27), .ref (a 28), .ref (a 29), .int (nI dm)])), (a 25, .inl (cI, 1536, .inl d0)), (a 26, .inl (cI, 1536, .inl d1)), (a 27, .inl (cZ, 1536, .inl d2)), (a 28, .inl (cI, 384, .inl d3_9))] H := hP
      have hD : va_D A [(a 0, .inr (11, [.ref (a 1), .ref (a 2), .ref (a 3), .ref (a 4), .ref (a 5), .ref (a 6), .ref (a 7), .ref (a 8), .ref (a 9), .ref (a 10), .ref (a 11), .ref (a 12), .int ap])), (a 6, .inr (0, [.ref (a 5), .ref (a 25), .ref (a 26), .ref (a 27), .ref (a 28), .ref (a 29), .int (nI dm)])), (a 25, .inl (cI, 1536, .inl d0)), (a 26, .inl (cI, 1536, .inl d1)), (a 27, .inl (cZ, 1536, .inl d2)), (a 28, .inl (cI, 384, .inl d3_9))] := hD
      rcases wr_8 with ⟨mm_10, hmm_10, rfl⟩
      · refine lv_istore (lv' := [(4, .int (nI mm_10)), (0, .ref (a 0)), (1, .int (nI ff2)), (2, .int (nI gg2)), (3, .int (nI tn3))]) hx hb dX11_joined_33 hl (by decide) rfl (fun ls hl => ?_)
        refine lv_iload_n hx hb dX11_joined_35 rfl (lv_at hl 4 rfl) ?_
        refine lv_iconst (v := 2) hx hb dX11_joined_36 (by decide) ?_
        refine lv_icmp_ne (tgt := 43) hx hb dX11_joined_37 (by decide) (fun c_11 => ?_) (fun c_11 => ?_)
        · have n_12 : tn3 ≠ 2 := (lf_X11_joined_13 a ap dm d0 d1 d2 d3 (nI ff2) (nI gg2) (nI tn3) hdm ff2 gg2 hff2 hgg2 c_4 tn3 tn3a tn3b rfl d3_9 mm_10 hmm_10 c_11)
          refine lv_iload hx hb dX11_joined_43 (lv_at hl 0 rfl) ?_
          refine lv_if_ne (tgt := 51) hx hb dX11_joined_45 (by decide) (fun c_14 => ?_) (fun c_14 => ?_)
          · have n_15 : mm_10 ≠ 0 := (lf_X11_joined_16 a ap dm d0 d1 d2 d3 (nI ff2) (nI gg2) (nI tn3) hdm ff2 gg2 hff2 hgg2 c_4 tn3 tn3a tn3b rfl d3_9 mm_10 hmm_10 c_11 n_12 c_14)
            refine lv_iload_n hx hb dX11_joined_51 rfl (lv_at hl 4 rfl) ?_
            refine lv_iconst (v := 2) hx hb dX11_joined_52 (by decide) ?_
            refine lv_icmp_ge (tgt := 67) hx hb dX11_joined_53 (by decide) (fun c_17 => ?_) (fun c_17 => ?_)
            · have n_18 : 2 ≤ tn3 := (lf_X11_joined_19 a ap dm d0 d1 d2 d3 (nI ff2) (nI gg2) (nI tn3) hdm ff2 gg2 hff2 hgg2 c_4 tn3 tn3a tn3b rfl d3_9 mm_10 hmm_10 c_11 n_12 c_14 n_15 c_17)
              refine lv_aload_n hx hb dX11_joined_67 rfl (lv_at hl 1 rfl) ?_
              refine va_get (D := D) (ci := 11) (v := .ref (a 6)) (C := RX11) (T := TX11) (N := 13) hx hb hts inT_X11 hown hK.1 hP 0 rfl rfl 5 (by decide) (hts _ k_488) (fun _ h9 => h9) rfl dX11_joined_68 ?_
              refine lv_iload_n hx hb dX11_joined_71 rfl (lv_at hl 2 rfl) ?_
              refine lv_iload_n hx hb dX11_joined_72 rfl (lv_at hl 3 rfl) ?_
              refine lv_iload_n hx hb dX11_joined_73 rfl (lv_at hl 4 rfl) ?_
              refine lv_iconst (v := 3) hx hb dX11_joined_74 (by decide) ?_
              refine lv_isub hx hb dX11_joined_75 ?_
              refine lv_topi (fun x_20 ex_20 => ?_)
              refine eWi (wr := [(a 0, .inr (11, [.ref (a 1), .ref (a 2), .ref (a 3), .ref (a 4), .ref (a 5), .ref (a 6), .ref (a 7), .ref (a 8), .ref (a 9), .ref (a 10), .ref (a 11), .ref (a 12), .int ap]))]) (va_runV (As := [.int (nI ff2), .int (nI gg2), .int x_20]) (rest := []) ⟨hx, hb, hml, hown, hts⟩ (c_X0_rest l D cI cB cZ cJ tx a dm d0 d1 d2 d3_9 ff2 gg2 x_20 (lf_X11_joined_21 a ap dm d0 d1 d2 d3 (nI ff2) (nI gg2) (nI tn3) hdm ff2 gg2 hff2 hgg2 c_4 tn3 tn3a tn3b rfl d3_9 mm_10 hmm_10 c_11 n_12 c_14 n_15 c_17 n_18 x_20 ex_20) (lf_X11_joined_22 a ap dm d0 d1 d2 d3 (nI ff2) (nI gg2) (nI tn3) hdm ff2 gg2 hff2 hgg2 c_4 tn3 tn3a tn3b rfl d3_9 mm_10 hmm_10 c_11 n_12 c_14 n_15 c_17 n_18 x_20 ex_20) (lf_X11_joined_23 a ap dm d0 d1 d2 d3 (nI ff2) (nI gg2) (nI tn3) hdm ff2 gg2 hff2 hgg2 c_4 tn3 tn3a tn3b rfl d3_9 mm_10 hmm_10 c_11 n_12 c_14 n_15 c_17 n_18 x_20 ex_20) H.size) (zV hts k_966 v_X0_rest ⟨Nat.le_of_ble_eq_true rfl, Nat.le_of_ble_eq_true rfl⟩) (pV (pxS hK hP hD [1, 2, 3, 4, 5] (by decide) rfl) hK hP 1 rfl rfl) rfl rfl hl.1 rfl (lv_room (Nat.le_of_ble_eq_true rfl)) dX11_joined_76 ⟨Nat.le_of_ble_eq_true rfl, Nat.le_of_ble_eq_true rfl⟩) hP hD hS hA [1, 2, 3, 4, 5] [0] rfl rfl (by decide) (by decide) (fun r_24 u_25 H locs wr_24 hP hD hS => ?_)
              obtain ⟨d3_25, rfl⟩ : ∃ z, z = u_25 := ⟨_, rfl⟩
              have hP : va_P D vwCl [(a 0, .inr (11, [.ref (a 1), .ref (a 2), .ref (a 3), .ref (a 4), .ref (a 5), .ref (a 6), .ref (a 7), .ref (a 8), .ref (a 9), .ref (a 10), .ref (a 11), .ref (a 12), .int ap])), (a 6, .inr (0, [.ref (a 5), .ref (a 25), .ref (a 26), .ref (a 27), .ref (a 28), .ref (a 29), .int (nI dm)])), (a 25, .inl (cI, 1536, .inl d0)), (a 26, .inl (cI, 1536, .inl d1)), (a 27, .inl (cZ, 1536, .inl d2)), (a 28, .inl (cI, 384, .inl d3_25))] H := hP
              have hD : va_D A [(a 0, .inr (11, [.ref (a 1), .ref (a 2), .ref (a 3), .ref (a 4), .ref (a 5), .ref (a 6), .ref (a 7), .ref (a 8), .ref (a 9), .ref (a 10), .ref (a 11), .ref (a 12), .int ap])), (a 6, .inr (0, [.ref (a 5), .ref (a 25), .ref (a 26), .ref (a 27), .ref (a 28), .ref (a 29), .int (nI dm)])), (a 25, .inl (cI, 1536, .inl d0)), (a 26, .inl (cI, 1536, .inl d1)), (a 27, .inl (cZ, 1536, .inl d2)), (a 28, .inl (cI, 384, .inl d3_25))] := hD
              exact W.iret (v := r_24) hx hb hr (fun tt9 ht hW => ⟨⟨(r_24 : Int32), ((d3_25 : Nat → Int32)), rfl, trivial, ⟨by rw [ht]; exact hP, hD⟩⟩, hS.F ht⟩) hS.2.2 dX11_joined_79 hlocks
            · have n_26 : tn3 < 2 := (lf_X11_joined_27 a ap dm d0 d1 d2 d3 (nI ff2) (nI gg2) (nI tn3) hdm ff2 gg2 hff2 hgg2 c_4 tn3 tn3a tn3b rfl d3_9 mm_10 hmm_10 c_11 n_12 c_14 n_15 c_17)
              refine lv_aload_n hx hb dX11_joined_56 rfl (lv_at hl 1 rfl) ?_
              refine va_get (D := D) (ci := 11) (v := .ref (a 6)) (C := RX11) (T := TX11) (N := 13) hx hb hts inT_X11 hown hK.1 hP 0 rfl rfl 5 (by decide) (hts _ k_488) (fun _ h9 => h9) rfl dX11_joined_57 ?_
              refine lv_iload_n hx hb dX11_joined_60 rfl (lv_at hl 2 rfl) ?_
              refine lv_iload_n hx hb dX11_joined_61 rfl (lv_at hl 3 rfl) ?_
              refine lv_iload_n hx hb dX11_joined_62 rfl (lv_at hl 4 rfl) ?_
              refine eWi (wr := [(a 0, .inr (11, [.ref (a 1), .ref (a 2), .ref (a 3), .ref (a 4), .ref (a 5), .ref (a 6), .ref (a 7), .ref (a 8), .ref (a 9), .ref (a 10), .ref (a 11), .ref (a 12), .int ap]))]) (va_runV (As := [.int (nI ff2), .int (nI gg2), .int (nI tn3)]) (rest := []) ⟨hx, hb, hml, hown, hts⟩ (c_X0_shift l D cI cB cZ cJ tx a dm d0 d1 d2 d3_9 ff2 gg2 (nI tn3) (lf_X11_joined_28 a ap dm d0 d1 d2 d3 (nI ff2) (nI gg2) (nI tn3) hdm ff2 gg2 hff2 hgg2 c_4 tn3 tn3a tn3b rfl d3_9 mm_10 hmm_10 c_11 n_12 c_14 n_15 c_17 n_26) (lf_X11_joined_29 a ap dm d0 d1 d2 d3 (nI ff2) (nI gg2) (nI tn3) hdm ff2 gg2 hff2 hgg2 c_4 tn3 tn3a tn3b rfl d3_9 mm_10 hmm_10 c_11 n_12 c_14 n_15 c_17 n_26) (lf_X11_joined_30 a ap dm d0 d1 d2 d3 (nI ff2) (nI gg2) (nI tn3) hdm ff2 gg2 hff2 hgg2 c_4 tn3 tn3a tn3b rfl d3_9 mm_10 hmm_10 c_11 n_12 c_14 n_15 c_17 n_26) H.size) (zV hts k_956 v_X0_shift ⟨Nat.le_of_ble_eq_true rfl, Nat.le_of_ble_eq_true rfl⟩) (pV (pxS hK hP hD [1, 2, 3, 4, 5] (by decide) rfl) hK hP 1 rfl rfl) rfl rfl hl.1 rfl (lv_room (Nat.le_of_ble_eq_true rfl)) dX11_joined_63 ⟨Nat.le_of_ble_eq_true rfl, Nat.le_of_ble_eq_true rfl⟩) hP hD hS hA [1, 2, 3, 4, 5] [0] rfl rfl (by decide) (by decide) (fun r_31 u_32 H locs wr_31 hP hD hS => ?_)
              obtain ⟨d3_32, rfl⟩ : ∃ z, z = u_32 := ⟨_, rfl⟩
              have hP : va_P D vwCl [(a 0, .inr (11, [.ref (a 1), .ref (a 2), .ref (a 3), .ref (a 4), .ref (a 5), .ref (a 6), .ref (a 7), .ref (a 8), .ref (a 9), .ref (a 10), .ref (a 11), .ref (a 12), .int ap])), (a 6, .inr (0, [.ref (a 5), .ref (a 25), .ref (a 26), .ref (a 27), .ref (a 28), .ref (a 29), .int (nI dm)])), (a 25, .inl (cI, 1536, .inl d0)), (a 26, .inl (cI, 1536, .inl d1)), (a 27, .inl (cZ, 1536, .inl d2)), (a 28, .inl (cI, 384, .inl d3_32))] H := hP
              have hD : va_D A [(a 0, .inr (11, [.ref (a 1), .ref (a 2), .ref (a 3), .ref (a 4), .ref (a 5), .ref (a 6), .ref (a 7), .ref (a 8), .ref (a 9), .ref (a 10), .ref (a 11), .ref (a 12), .int ap])), (a 6, .inr (0, [.ref (a 5), .ref (a 25), .ref (a 26), .ref (a 27), .ref (a 28), .ref (a 29), .int (nI dm)])), (a 25, .inl (cI, 1536, .inl d0)), (a 26, .inl (cI, 1536, .inl d1)), (a 27, .inl (cZ, 1536, .inl d2)), (a 28, .inl (cI, 384, .inl d3_32))] := hD
              exact W.iret (v := r_31) hx hb hr (fun tt9 ht hW => ⟨⟨(r_31 : Int32), ((d3_32 : Nat → Int32)), rfl, trivial, ⟨by rw [ht]; exact hP, hD⟩⟩, hS.F ht⟩) hS.2.2 dX11_joined_66 hlocks
          · have n_33 : mm_10 = 0 := (lf_X11_joined_34 a ap dm d0 d1 d2 d3 (nI ff2) (nI gg2) (nI tn3) hdm ff2 gg2 hff2 hgg2 c_4 tn3 tn3a tn3b rfl d3_9 mm_10 hmm_10 c_11 n_12 c_14)
            refine lv_ldc (v := (-1000000)) hx hb hown (hts _ k_946) dX11_joined_48 ?_
            exact W.iret (v := (-1000000)) hx hb hr (fun tt9 ht hW => ⟨⟨((-1000000) : Int32), ((d3_9 : Nat → Int32)), rfl, trivial, ⟨by rw [ht]; exact hP, hD⟩⟩, hS.F ht⟩) hS.2.2 dX11_joined_50 hlocks
        · have n_35 : tn3 = 2 := (lf_X11_joined_36 a ap dm d0 d1 d2 d3 (nI ff2) (nI gg2) (nI tn3) hdm ff2 gg2 hff2 hgg2 c_4 tn3 tn3a tn3b rfl d3_9 mm_10 hmm_10 c_11)
          refine lv_iload hx hb dX11_joined_40 (lv_at hl 0 rfl) ?_
          exact W.iret (v := nI mm_10) hx hb hr (fun tt9 ht hW => ⟨⟨(nI mm_10 : Int32), ((d3_9 : Nat → Int32)), rfl, trivial, ⟨by rw [ht]; exact hP, hD⟩⟩, hS.F ht⟩) hS.2.2 dX11_joined_42 hlocks
    · refine lv_ldc (v := (-1000000)) hx hb hown (hts _ k_946) dX11_joined_21 ?_
      exact W.iret (v := (-1000000)) hx hb hr (fun tt9 ht hW => ⟨⟨((-1000000) : Int32), ((d3 : Nat → Int32)), rfl, trivial, ⟨by rw [ht]; exact hP, hD⟩⟩, hS.F ht⟩) hS.2.2 dX11_joined_23 hlocks

theorem lf_X11_off_1 (a : Nat → Nat) (ap : Int32) (dm : Nat) (d0 : Nat → Int32) (d1 : Nat → Int32) (d2 : Nat → Int32) (d3 : Nat → Int32) (d4 : Nat → Int32) (n1 : Int32) (n2 : Int32) (n3 : Int32) (hdm : dm ≤ 4) : dm ≤ 4 := by
  first | assumption | omega | decide
theorem lf_X11_off_5 (a : Nat → Nat) (ap : Int32) (dm : Nat) (d0 : Nat → Int32) (d1 : Nat → Int32) (d2 : Nat → Int32) (d3 : Nat → Int32) (d4 : Nat → Int32) (n1 : Int32) (n2 : Int32) (n3 : Int32) (hdm : dm ≤ 4) (ff2 : Nat) (gg2 : Nat) (hff2 : ff2 < dm) (hgg2 : gg2 < dm) (c_4 : (0 : Int32) ≤ n3 ∧ n3 ≤ 12000) (tn3 : Nat) (tn3a : 0 ≤ tn3) (tn3b : tn3 ≤ 12000) (tn3e : n3 = nI tn3) : dm ≤ 4 := by
  first | assumption | omega | decide
theorem lf_X11_off_6 (a : Nat → Nat) (ap : Int32) (dm : Nat) (d0 : Nat → Int32) (d1 : Nat → Int32) (d2 : Nat → Int32) (d3 : Nat → Int32) (d4 : Nat → Int32) (n1 : Int32) (n2 : Int32) (n3 : Int32) (hdm : dm ≤ 4) (ff2 : Nat) (gg2 : Nat) (hff2 : ff2 < dm) (hgg2 : gg2 < dm) (c_4 : (0 : Int32) ≤ n3 ∧ n3 ≤ 12000) (tn3 : Nat) (tn3a : 0 ≤ tn3) (tn3b : tn3 ≤ 12000) (tn3e : n3 = nI tn3) : ff2 < dm := by
  first | assumption | omega | decide
theorem lf_X11_off_7 (a : Nat → Nat) (ap : Int32) (dm : Nat) (d0 : Nat → Int32) (d1 : Nat → Int32) (d2 : Nat → Int32) (d3 : Nat → Int32) (d4 : Nat → Int32) (n1 : Int32) (n2 : Int32) (n3 : Int32) (hdm : dm ≤ 4) (ff2 : Nat) (gg2 : Nat) (hff2 : ff2 < dm) (hgg2 : gg2 < dm) (c_4 : (0 : Int32) ≤ n3 ∧ n3 ≤ 12000) (tn3 : Nat) (tn3a : 0 ≤ tn3) (tn3b : tn3 ≤ 12000) (tn3e : n3 = nI tn3) : gg2 < dm := by
  first | assumption | omega | decide
theorem lf_X11_off_13 (a : Nat → Nat) (ap : Int32) (dm : Nat) (d0 : Nat → Int32) (d1 : Nat → Int32) (d2 : Nat → Int32) (d3 : Nat → Int32) (d4 : Nat → Int32) (n1 : Int32) (n2 : Int32) (n3 : Int32) (hdm : dm ≤ 4) (ff2 : Nat) (gg2 : Nat) (hff2 : ff2 < dm) (hgg2 : gg2 < dm) (c_4 : (0 : Int32) ≤ n3 ∧ n3 ≤ 12000) (tn3 : Nat) (tn3a : 0 ≤ tn3) (tn3b : tn3 ≤ 12000) (tn3e : n3 = nI tn3) (d3_9 : Nat → Int32) (mm_10 : Nat) (hmm_10 : mm_10 ≤ 384) (c_11 : ¬ nI mm_10 = 0) : mm_10 ≠ 0 := by
  exact fun q => c_11 ((nI_eq (a := mm_10) (b := 0) (by omega) (by omega)).mpr q)
theorem lf_X11_off_14 (a : Nat → Nat) (ap : Int32) (dm : Nat) (d0 : Nat → Int32) (d1 : Nat → Int32) (d2 : Nat → Int32) (d3 : Nat → Int32) (d4 : Nat → Int32) (n1 : Int32) (n2 : Int32) (n3 : Int32) (hdm : dm ≤ 4) (ff2 : Nat) (gg2 : Nat) (hff2 : ff2 < dm) (hgg2 : gg2 < dm) (c_4 : (0 : Int32) ≤ n3 ∧ n3 ≤ 12000) (tn3 : Nat) (tn3a : 0 ≤ tn3) (tn3b : tn3 ≤ 12000) (tn3e : n3 = nI tn3) (d3_9 : Nat → Int32) (mm_10 : Nat) (hmm_10 : mm_10 ≤ 384) (c_11 : ¬ nI mm_10 = 0) (n_12 : mm_10 ≠ 0) : dm ≤ 4 := by
  first | assumption | omega | decide
theorem lf_X11_off_15 (a : Nat → Nat) (ap : Int32) (dm : Nat) (d0 : Nat → Int32) (d1 : Nat → Int32) (d2 : Nat → Int32) (d3 : Nat → Int32) (d4 : Nat → Int32) (n1 : Int32) (n2 : Int32) (n3 : Int32) (hdm : dm ≤ 4) (ff2 : Nat) (gg2 : Nat) (hff2 : ff2 < dm) (hgg2 : gg2 < dm) (c_4 : (0 : Int32) ≤ n3 ∧ n3 ≤ 12000) (tn3 : Nat) (tn3a : 0 ≤ tn3) (tn3b : tn3 ≤ 12000) (tn3e : n3 = nI tn3) (d3_9 : Nat → Int32) (mm_10 : Nat) (hmm_10 : mm_10 ≤ 384) (c_11 : ¬ nI mm_10 = 0) (n_12 : mm_10 ≠ 0) : ff2 < dm := by
  first | assumption | omega | decide
theorem lf_X11_off_16 (a : Nat → Nat) (ap : Int32) (dm : Nat) (d0 : Nat → Int32) (d1 : Nat → Int32) (d2 : Nat → Int32) (d3 : Nat → Int32) (d4 : Nat → Int32) (n1 : Int32) (n2 : Int32) (n3 : Int32) (hdm : dm ≤ 4) (ff2 : Nat) (gg2 : Nat) (hff2 : ff2 < dm) (hgg2 : gg2 < dm) (c_4 : (0 : Int32) ≤ n3 ∧ n3 ≤ 12000) (tn3 : Nat) (tn3a : 0 ≤ tn3) (tn3b : tn3 ≤ 12000) (tn3e : n3 = nI tn3) (d3_9 : Nat → Int32) (mm_10 : Nat) (hmm_10 : mm_10 ≤ 384) (c_11 : ¬ nI mm_10 = 0) (n_12 : mm_10 ≠ 0) : gg2 < dm := by
  first | assumption | omega | decide
theorem lf_X11_off_20 (a : Nat → Nat) (ap : Int32) (dm : Nat) (d0 : Nat → Int32) (d1 : Nat → Int32) (d2 : Nat → Int32) (d3 : Nat → Int32) (d4 : Nat → Int32) (n1 : Int32) (n2 : Int32) (n3 : Int32) (hdm : dm ≤ 4) (ff2 : Nat) (gg2 : Nat) (hff2 : ff2 < dm) (hgg2 : gg2 < dm) (c_4 : (0 : Int32) ≤ n3 ∧ n3 ≤ 12000) (tn3 : Nat) (tn3a : 0 ≤ tn3) (tn3b : tn3 ≤ 12000) (tn3e : n3 = nI tn3) (d3_9 : Nat → Int32) (mm_10 : Nat) (hmm_10 : mm_10 ≤ 384) (c_11 : nI mm_10 = 0) : mm_10 = 0 := by
  exact (nI_eq (a := mm_10) (b := 0) (by omega) (by omega)).mp c_11
set_option maxHeartbeats 4000000 in
set_option maxRecDepth 100000 in
theorem c_X11_off (l : Launch) (D : va_G) (cI cB cZ cJ : ClassId) (tx : List (ClassId × FieldType)) (a : Nat → Nat) (ap : Int32) (dm : Nat) (d0 : Nat → Int32) (d1 : Nat → Int32) (d2 : Nat → Int32) (d3 : Nat → Int32) (d4 : Nat → Int32) (n1 : Int32) (n2 : Int32) (n3 : Int32) (hdm : dm ≤ 4) : WrI l D cI cB cZ cJ tx yX11_off cX11_off 4 (some .int) 5 0 0 [.ref (a 0), .int n1, .int n2, .int n3] [(a 0, .inr (11, [.ref (a 1), .ref (a 2), .ref (a 3), .ref (a 4), .ref (a 5), .ref (a 6), .ref (a 7), .ref (a 8), .ref (a 9), .ref (a 10), .ref (a 11), .ref (a 12), .int ap])), (a 6, .inr (0, [.ref (a 5), .ref (a 25), .ref (a 26), .ref (a 27), .ref (a 28), .ref (a 29), .int (nI dm)])), (a 25, .inl (cI, 1536, .inl d0)), (a 26, .inl (cI, 1536, .inl d1)), (a 27, .inl (cZ, 1536, .inl d2)), (a 28, .inl (cI, 384, .inl d3)), (a 29, .inl (cI, 384, .inl d4))] (fun (r : Int32) (v : (Nat → Int32) × (Nat → Int32)) => True) (fun v => [(a 0, .inr (11, [.ref (a 1), .ref (a 2), .ref (a 3), .ref (a 4), .ref (a 5), .ref (a 6), .ref (a 7), .ref (a 8), .ref (a 9), .ref (a 10), .ref (a 11), .ref (a 12), .int ap])), (a 6, .inr (0, [.ref (a 5), .ref (a 25), .ref (a 26), .ref (a 27), .ref (a 28), .ref (a 29), .int (nI dm)])), (a 25, .inl (cI, 1536, .inl d0)), (a 26, .inl (cI, 1536, .inl d1)), (a 27, .inl (cZ, 1536, .inl d2)), (a 28, .inl (cI, 384, .inl v.1)), (a 29, .inl (cI, 384, .inl v.2))]) := by
  refine wri_of2 (by decide) (Nat.le_of_ble_eq_true rfl) ?_
  intro p e s m below meth c A ls H locs hC hK hP hD hA hS hl
  obtain ⟨hx, hb, hr, hml, hown, hts, hlocks, hin⟩ := hC
  have hown : s.vm.findClass RX11 = some m.cls := hown
  have hl : lv_has ls 4 [(0, .ref (a 0)), (1, .int n1), (2, .int n2), (3, .int n3)] := hl
  refine lv_aload_n hx hb dX11_off_0 rfl (lv_at hl 0 rfl) ?_
  refine va_get (D := D) (ci := 11) (v := .ref (a 6)) (C := RX11) (T := TX11) (N := 13) hx hb hts inT_X11 hown hK.1 hP 0 rfl rfl 5 (by decide) (hts _ k_488) (fun _ h9 => h9) rfl dX11_off_1 ?_
  refine lv_iload_n hx hb dX11_off_4 rfl (lv_at hl 1 rfl) ?_
  refine lv_iload_n hx hb dX11_off_5 rfl (lv_at hl 2 rfl) ?_
  refine eRi (va_runV (As := [.int n1, .int n2]) (rest := []) ⟨hx, hb, hml, hown, hts⟩ (c_X0_areTwo l D cI cB cZ cJ tx a dm n1 n2 (lf_X11_off_1 a ap dm d0 d1 d2 d3 d4 n1 n2 n3 hdm) H.size) (zV hts k_942 v_X0_areTwo ⟨Nat.le_of_ble_eq_true rfl, Nat.le_of_ble_eq_true rfl⟩) (pV (px1 hK hP 1 rfl) hK hP 1 rfl rfl) rfl rfl hl.1 rfl (lv_room (Nat.le_of_ble_eq_true rfl)) dX11_off_6 ⟨Nat.le_of_ble_eq_true rfl, Nat.le_of_ble_eq_true rfl⟩) hP hS hA (fun r_2 H locs wr_2 hP hS => ?_)
  rcases wr_2 with rfl | ⟨ff2, gg2, hff2, hgg2, rfl, rfl, rfl⟩
  · refine lv_if_eq (tgt := 35) hx hb dX11_off_9 (by decide) (fun _ => ?_) (fun c => absurd c (by decide))
    refine lv_iconst (v := (-1)) hx hb dX11_off_35 (by decide) ?_
    exact W.iret (v := (-1)) hx hb hr (fun tt9 ht hW => ⟨⟨((-1) : Int32), ((d3 : Nat → Int32), (d4 : Nat → Int32)), rfl, trivial, ⟨by rw [ht]; exact hP, hD⟩⟩, hS.F ht⟩) hS.2.2 dX11_off_36 hlocks
  · refine lv_if_eq (tgt := 35) hx hb dX11_off_9 (by decide) (fun c => absurd c (by decide)) (fun _ => ?_)
    refine lv_iload_n hx hb dX11_off_12 rfl (lv_at hl 3 rfl) ?_
    refine lv_iconst (v := 0) hx hb dX11_off_13 (by decide) ?_
    refine lv_sipush (v := 12000) hx hb dX11_off_14 (by decide) ?_
    refine eRi (va_runS (As := [.int n3, .int 0, .int 12000]) (rest := []) ⟨hx, hb, hml, hown, hts⟩ (c_X11_within l D cI cB cZ cJ tx n3 0 12000 H.size) (zS hts k_527 v_X11_within ⟨Nat.le_of_ble_eq_true rfl, Nat.le_of_ble_eq_true rfl⟩) (px0 hK) rfl rfl hl.1 rfl (lv_room (Nat.le_of_ble_eq_true rfl)) dX11_off_17 ⟨Nat.le_of_ble_eq_true rfl, Nat.le_of_ble_eq_true rfl⟩) hP hS hA (fun r_3 H locs wr_3 hP hS => ?_)
    subst wr_3
    refine lv_bi_eq (tgt := 35) hx hb dX11_off_20 (by decide) (fun c_4 => ?_) (fun c_4 => ?_)
    · refine lv_iconst (v := (-1)) hx hb dX11_off_35 (by decide) ?_
      exact W.iret (v := (-1)) hx hb hr (fun tt9 ht hW => ⟨⟨((-1) : Int32), ((d3 : Nat → Int32), (d4 : Nat → Int32)), rfl, trivial, ⟨by rw [ht]; exact hP, hD⟩⟩, hS.F ht⟩) hS.2.2 dX11_off_36 hlocks
    · obtain ⟨tn3, tn3a, tn3b, tn3e⟩ := of_rng 0 12000 rfl rfl c_4
      subst tn3e
      refine lv_aload_n hx hb dX11_off_23 rfl (lv_at hl 0 rfl) ?_
      refine va_get (D := D) (ci := 11) (v := .ref (a 6)) (C := RX11) (T := TX11) (N := 13) hx hb hts inT_X11 hown hK.1 hP 0 rfl rfl 5 (by decide) (hts _ k_488) (fun _ h9 => h9) rfl dX11_off_24 ?_
      refine lv_iload_n hx hb dX11_off_27 rfl (lv_at hl 1 rfl) ?_
      refine lv_iload_n hx hb dX11_off_28 rfl (lv_at hl 2 rfl) ?_
      refine eWi (wr := [(a 0, .inr (11, [.ref (a 1), .ref (a 2), .ref (a 3), .ref (a 4), .ref (a 5), .ref (a 6), .ref (a 7), .ref (a 8), .ref (a 9), .ref (a 10), .ref (a 11), .ref (a 12), .int ap])), (a 29, .inl (cI, 384, .inl d4))]) (va_runV (As := [.int (nI ff2), .int (nI gg2)]) (rest := []) ⟨hx, hb, hml, hown, hts⟩ (c_X0_common l D cI cB cZ cJ tx a dm d0 d1 d2 d3 ff2 gg2 (lf_X11_off_5 a ap dm d0 d1 d2 d3 d4 (nI ff2) (nI gg2) (nI tn3) hdm ff2 gg2 hff2 hgg2 c_4 tn3 tn3a tn3b rfl) (lf_X11_off_6 a ap dm d0 d1 d2 d3 d4 (nI ff2) (nI gg2) (nI tn3) hdm ff2 gg2 hff2 hgg2 c_4 tn3 tn3a tn3b rfl) (lf_X11_off_7 a ap dm d0 d1 d2 d3 d4 (nI ff2) (nI gg2) (nI tn3) hdm ff2 gg2 hff2 hgg2 c_4 tn3 tn3a tn3b rfl) H.size) (zV hts k_947 v_X0_common ⟨Nat.le_of_ble_eq_true rfl, Nat.le_of_ble_eq_true rfl⟩) (pV (pxS hK hP hD [1, 2, 3, 4, 5] (by decide) rfl) hK hP 1 rfl rfl) rfl rfl hl.1 rfl (lv_room (Nat.le_of_ble_eq_true rfl)) dX11_off_29 ⟨Nat.le_of_ble_eq_true rfl, Nat.le_of_ble_eq_true rfl⟩) hP hD hS hA [1, 2, 3, 4, 5] [0, 6] rfl rfl (by decide) (by decide) (fun r_8 u_9 H locs wr_8 hP hD hS => ?_)
      obtain ⟨d3_9, rfl⟩ : ∃ z, z = u_9 := ⟨_, rfl⟩
      have hP : va_P D vwCl [(a 0, .inr (11, [.ref (a 1), .ref (a 2), .ref (a 3), .ref (a 4), .ref (a 5), .ref (a 6), .ref (a 7), .ref (a 8), .ref (a 9), .ref (a 10), .ref (a 11), .ref (a 12), .int ap])), (a 29, .inl (cI, 384, .inl d4)), (a 6, .inr (0, [.ref (a 5), .ref (a 25), .ref (a 26), .ref (a 27), .ref (a 28), .ref (a 29), .int (nI dm)])), (a 25, .inl (cI, 1536, .inl d0)), (a 26, .inl (cI, 1536, .inl d1)), (a 27, .inl (cZ, 1536, .inl d2)), (a 28, .inl (cI, 384, .inl d3_9))] H := hP
      have hD : va_D A [(a 0, .inr (11, [.ref (a 1), .ref (a 2), .ref (a 3), .ref (a 4), .ref (a 5), .ref (a 6), .ref (a 7), .ref (a 8), .ref (a 9), .ref (a 10), .ref (a 11), .ref (a 12), .int ap])), (a 29, .inl (cI, 384, .inl d4)), (a 6, .inr (0, [.ref (a 5), .ref (a 25), .ref (a 26), .ref (a 27), .ref (a 28), .ref (a 29), .int (nI dm)])), (a 25, .inl (cI, 1536, .inl d0)), (a 26, .inl (cI, 1536, .inl d1)), (a 27, .inl (cZ, 1536, .inl d2)), (a 28, .inl (cI, 384, .inl d3_9))] := hD
      rcases wr_8 with ⟨mm_10, hmm_10, rfl⟩
      · refine lv_if_ne (tgt := 37) hx hb dX11_off_32 (by decide) (fun c_11 => ?_) (fun c_11 => ?_)
        · have n_12 : mm_10 ≠ 0 := (lf_X11_off_13 a ap dm d0 d1 d2 d3 d4 (nI ff2) (nI gg2) (nI tn3) hdm ff2 gg2 hff2 hgg2 c_4 tn3 tn3a tn3b rfl d3_9 mm_10 hmm_10 c_11)
          refine lv_aload_n hx hb dX11_off_37 rfl (lv_at hl 0 rfl) ?_
          refine va_get (D := D) (ci := 11) (v := .ref (a 6)) (C := RX11) (T := TX11) (N := 13) hx hb hts inT_X11 hown hK.1 hP 0 rfl rfl 5 (by decide) (hts _ k_488) (fun _ h9 => h9) rfl dX11_off_38 ?_
          refine lv_iload_n hx hb dX11_off_41 rfl (lv_at hl 1 rfl) ?_
          refine lv_iload_n hx hb dX11_off_42 rfl (lv_at hl 2 rfl) ?_
          refine lv_iload_n hx hb dX11_off_43 rfl (lv_at hl 3 rfl) ?_
          refine eWi (wr := [(a 0, .inr (11, [.ref (a 1), .ref (a 2), .ref (a 3), .ref (a 4), .ref (a 5), .ref (a 6), .ref (a 7), .ref (a 8), .ref (a 9), .ref (a 10), .ref (a 11), .ref (a 12), .int ap]))]) (va_runV (As := [.int (nI ff2), .int (nI gg2), .int (nI tn3)]) (rest := []) ⟨hx, hb, hml, hown, hts⟩ (c_X0_farther l D cI cB cZ cJ tx a dm d0 d1 d2 d3_9 d4 ff2 gg2 (nI tn3) (lf_X11_off_14 a ap dm d0 d1 d2 d3 d4 (nI ff2) (nI gg2) (nI tn3) hdm ff2 gg2 hff2 hgg2 c_4 tn3 tn3a tn3b rfl d3_9 mm_10 hmm_10 c_11 n_12) (lf_X11_off_15 a ap dm d0 d1 d2 d3 d4 (nI ff2) (nI gg2) (nI tn3) hdm ff2 gg2 hff2 hgg2 c_4 tn3 tn3a tn3b rfl d3_9 mm_10 hmm_10 c_11 n_12) (lf_X11_off_16 a ap dm d0 d1 d2 d3 d4 (nI ff2) (nI gg2) (nI tn3) hdm ff2 gg2 hff2 hgg2 c_4 tn3 tn3a tn3b rfl d3_9 mm_10 hmm_10 c_11 n_12) H.size) (zV hts k_977 v_X0_farther ⟨Nat.le_of_ble_eq_true rfl, Nat.le_of_ble_eq_true rfl⟩) (pV (pxS hK hP hD [2, 3, 4, 5, 6, 1] (by decide) rfl) hK hP 2 rfl rfl) rfl rfl hl.1 rfl (lv_room (Nat.le_of_ble_eq_true rfl)) dX11_off_44 ⟨Nat.le_of_ble_eq_true rfl, Nat.le_of_ble_eq_true rfl⟩) hP hD hS hA [2, 3, 4, 5, 6, 1] [0] rfl rfl (by decide) (by decide) (fun r_17 u_18 H locs wr_17 hP hD hS => ?_)
          obtain ⟨d3_18, d4_18⟩ := u_18
          have hP : va_P D vwCl [(a 0, .inr (11, [.ref (a 1), .ref (a 2), .ref (a 3), .ref (a 4), .ref (a 5), .ref (a 6), .ref (a 7), .ref (a 8), .ref (a 9), .ref (a 10), .ref (a 11), .ref (a 12), .int ap])), (a 6, .inr (0, [.ref (a 5), .ref (a 25), .ref (a 26), .ref (a 27), .ref (a 28), .ref (a 29), .int (nI dm)])), (a 25, .inl (cI, 1536, .inl d0)), (a 26, .inl (cI, 1536, .inl d1)), (a 27, .inl (cZ, 1536, .inl d2)), (a 28, .inl (cI, 384, .inl d3_18)), (a 29, .inl (cI, 384, .inl d4_18))] H := hP
          have hD : va_D A [(a 0, .inr (11, [.ref (a 1), .ref (a 2), .ref (a 3), .ref (a 4), .ref (a 5), .ref (a 6), .ref (a 7), .ref (a 8), .ref (a 9), .ref (a 10), .ref (a 11), .ref (a 12), .int ap])), (a 6, .inr (0, [.ref (a 5), .ref (a 25), .ref (a 26), .ref (a 27), .ref (a 28), .ref (a 29), .int (nI dm)])), (a 25, .inl (cI, 1536, .inl d0)), (a 26, .inl (cI, 1536, .inl d1)), (a 27, .inl (cZ, 1536, .inl d2)), (a 28, .inl (cI, 384, .inl d3_18)), (a 29, .inl (cI, 384, .inl d4_18))] := hD
          exact W.iret (v := r_17) hx hb hr (fun tt9 ht hW => ⟨⟨(r_17 : Int32), ((d3_18 : Nat → Int32), (d4_18 : Nat → Int32)), rfl, trivial, ⟨by rw [ht]; exact hP, hD⟩⟩, hS.F ht⟩) hS.2.2 dX11_off_47 hlocks
        · have n_19 : mm_10 = 0 := (lf_X11_off_20 a ap dm d0 d1 d2 d3 d4 (nI ff2) (nI gg2) (nI tn3) hdm ff2 gg2 hff2 hgg2 c_4 tn3 tn3a tn3b rfl d3_9 mm_10 hmm_10 c_11)
          refine lv_iconst (v := (-1)) hx hb dX11_off_35 (by decide) ?_
          have hP := hP.sub (ws' := [(a 0, .inr (11, [.ref (a 1), .ref (a 2), .ref (a 3), .ref (a 4), .ref (a 5), .ref (a 6), .ref (a 7), .ref (a 8), .ref (a 9), .ref (a 10), .ref (a 11), .ref (a 12), .int ap])), (a 6, .inr (0, [.ref (a 5), .ref (a 25), .ref (a 26), .ref (a 27), .ref (a 28), .ref (a 29), .int (nI dm)])), (a 25, .inl (cI, 1536, .inl d0)), (a 26, .inl (cI, 1536, .inl d1)), (a 27, .inl (cZ, 1536, .inl d2)), (a 28, .inl (cI, 384, .inl d3_9)), (a 29, .inl (cI, 384, .inl d4))]) [0, 2, 3, 4, 5, 6, 1] rfl
          have hD := hD.sub (ws' := [(a 0, .inr (11, [.ref (a 1), .ref (a 2), .ref (a 3), .ref (a 4), .ref (a 5), .ref (a 6), .ref (a 7), .ref (a 8), .ref (a 9), .ref (a 10), .ref (a 11), .ref (a 12), .int ap])), (a 6, .inr (0, [.ref (a 5), .ref (a 25), .ref (a 26), .ref (a 27), .ref (a 28), .ref (a 29), .int (nI dm)])), (a 25, .inl (cI, 1536, .inl d0)), (a 26, .inl (cI, 1536, .inl d1)), (a 27, .inl (cZ, 1536, .inl d2)), (a 28, .inl (cI, 384, .inl d3_9)), (a 29, .inl (cI, 384, .inl d4))]) [0, 2, 3, 4, 5, 6, 1] (by decide) rfl
          exact W.iret (v := (-1)) hx hb hr (fun tt9 ht hW => ⟨⟨((-1) : Int32), ((d3_9 : Nat → Int32), (d4 : Nat → Int32)), rfl, trivial, ⟨by rw [ht]; exact hP, hD⟩⟩, hS.F ht⟩) hS.2.2 dX11_off_36 hlocks

theorem lf_X11_odds_4 (a : Nat → Nat) (ap : Int32) (y0 : Nat → Int32) (y1 : Nat → Int32) (y2 : Nat → Int32) (n1 : Int32) (c_1 : ¬ n1 = (-1)) (c_3 : (0 : Int32) ≤ n1 ∧ n1 ≤ 5) (tn1 : Nat) (tn1a : 0 ≤ tn1) (tn1b : tn1 ≤ 5) (tn1e : n1 = nI tn1) : vp_in (nI tn1) 6 := by
  first | exact vp_in_nI (by omega) (by decide) | (unfold vp_in; decide)
theorem lf_X11_odds_7 (a : Nat → Nat) (ap : Int32) (y0 : Nat → Int32) (y1 : Nat → Int32) (y2 : Nat → Int32) (n1 : Int32) (c_1 : ¬ n1 = (-1)) (c_3 : (0 : Int32) ≤ n1 ∧ n1 ≤ 5) (tn1 : Nat) (tn1a : 0 ≤ tn1) (tn1b : tn1 ≤ 5) (tn1e : n1 = nI tn1) (x_5 : Int32) (c_6 : ¬ x_5 = 0) : tn1 < 6 := by
  first | assumption | omega | decide
set_option maxHeartbeats 4000000 in
set_option maxRecDepth 100000 in
theorem c_X11_odds (l : Launch) (D : va_G) (cI cB cZ cJ : ClassId) (tx : List (ClassId × FieldType)) (a : Nat → Nat) (ap : Int32) (y0 : Nat → Int32) (y1 : Nat → Int32) (y2 : Nat → Int32) (n1 : Int32) : RdL l D cI cB cZ cJ tx yX11_odds cX11_odds 2 (some .long) 2 [.ref (a 0), .int n1] [(a 0, .inr (11, [.ref (a 1), .ref (a 2), .ref (a 3), .ref (a 4), .ref (a 5), .ref (a 6), .ref (a 7), .ref (a 8), .ref (a 9), .ref (a 10), .ref (a 11), .ref (a 12), .int ap])), (a 12, .inr (7, [.ref (a 48), .ref (a 49), .ref (a 50)])), (a 48, .inl (cI, 36, .inl y0)), (a 49, .inl (cZ, 6, .inl y1)), (a 50, .inl (cI, 6, .inl y2))] (fun r => True) := by
  refine rdl_of2 (by decide) (Nat.le_of_ble_eq_true rfl) ?_
  intro p e s m below meth c A ls H locs hC hK hP hD hA hS hl
  obtain ⟨hx, hb, hr, hml, hown, hts, hlocks, hin⟩ := hC
  have hown : s.vm.findClass RX11 = some m.cls := hown
  have hl : lv_has ls 2 [(0, .ref (a 0)), (1, .int n1)] := hl
  refine lv_iload_n hx hb dX11_odds_0 rfl (lv_at hl 1 rfl) ?_
  refine lv_iconst (v := (-1)) hx hb dX11_odds_1 (by decide) ?_
  refine lv_icmp_ne (tgt := 13) hx hb dX11_odds_2 (by decide) (fun c_1 => ?_) (fun c_1 => ?_)
  · refine lv_iload_n hx hb dX11_odds_13 rfl (lv_at hl 1 rfl) ?_
    refine lv_iconst (v := 0) hx hb dX11_odds_14 (by decide) ?_
    refine lv_iconst (v := 5) hx hb dX11_odds_15 (by decide) ?_
    refine eRi (va_runS (As := [.int n1, .int 0, .int 5]) (rest := []) ⟨hx, hb, hml, hown, hts⟩ (c_X11_within l D cI cB cZ cJ tx n1 0 5 H.size) (zS hts k_527 v_X11_within ⟨Nat.le_of_ble_eq_true rfl, Nat.le_of_ble_eq_true rfl⟩) (px0 hK) rfl rfl hl.1 rfl (lv_room (Nat.le_of_ble_eq_true rfl)) dX11_odds_16 ⟨Nat.le_of_ble_eq_true rfl, Nat.le_of_ble_eq_true rfl⟩) hP hS hA (fun r_2 H locs wr_2 hP hS => ?_)
    subst wr_2
    refine lv_bi_eq (tgt := 34) hx hb dX11_odds_19 (by decide) (fun c_3 => ?_) (fun c_3 => ?_)
    · refine lv_ldc2 (v := (-1)) hx hb hown (hts _ k_1074) dX11_odds_34 ?_
      exact W.lret (v := (-1)) hx hb hr (fun tt9 ht hW => ⟨⟨((-1) : Int64), (), rfl, trivial, trivial⟩, hS.F ht⟩) hS.2.2 dX11_odds_37 hlocks
    · obtain ⟨tn1, tn1a, tn1b, tn1e⟩ := of_rng 0 5 rfl rfl c_3
      subst tn1e
      refine lv_aload_n hx hb dX11_odds_22 rfl (lv_at hl 0 rfl) ?_
      refine va_get (D := D) (ci := 11) (v := .ref (a 12)) (C := RX11) (T := TX11) (N := 13) hx hb hts inT_X11 hown hK.1 hP 0 rfl rfl 11 (by decide) (hts _ k_494) (fun _ h9 => h9) rfl dX11_odds_23 ?_
      refine va_getN (D := D) (ci := 7) (v := .ref (a 49)) (C := RX7) (T := TX7) (N := 3) hx hb hts inT_X7 hown hK.1 hP 1 rfl rfl 1 (by decide) (va_Nw.use rfl (hK.2.2.1 _ n_473)) (fun _ h9 => h9) rfl dX11_odds_26 ?_
      refine lv_iload_n hx hb dX11_odds_29 rfl (lv_at hl 1 rfl) ?_
      refine ld_z hx hb hK hP 3 rfl (lf_X11_odds_4 a ap y0 y1 y2 (nI tn1) c_1 c_3 tn1 tn1a tn1b rfl) dX11_odds_30 (fun x_5 => ?_)
      refine lv_if_ne (tgt := 38) hx hb dX11_odds_31 (by decide) (fun c_6 => ?_) (fun c_6 => ?_)
      · refine lv_aload_n hx hb dX11_odds_38 rfl (lv_at hl 0 rfl) ?_
        refine va_get (D := D) (ci := 11) (v := .ref (a 12)) (C := RX11) (T := TX11) (N := 13) hx hb hts inT_X11 hown hK.1 hP 0 rfl rfl 11 (by decide) (hts _ k_494) (fun _ h9 => h9) rfl dX11_odds_39 ?_
        refine lv_iload_n hx hb dX11_odds_42 rfl (lv_at hl 1 rfl) ?_
        refine eRl (va_runV (As := [.int (nI tn1)]) (rest := []) ⟨hx, hb, hml, hown, hts⟩ (c_X7_product l D cI cB cZ cJ tx a y0 y2 tn1 (lf_X11_odds_7 a ap y0 y1 y2 (nI tn1) c_1 c_3 tn1 tn1a tn1b rfl x_5 c_6) H.size) (zV hts k_1213 v_X7_product ⟨Nat.le_of_ble_eq_true rfl, Nat.le_of_ble_eq_true rfl⟩) (pV (pxS hK hP hD [1, 2, 4] (by decide) rfl) hK hP 1 rfl rfl) rfl rfl hl.1 rfl (lv_room (Nat.le_of_ble_eq_true rfl)) dX11_odds_43 ⟨Nat.le_of_ble_eq_true rfl, Nat.le_of_ble_eq_true rfl⟩) hP hS hA (fun r_8 H locs wr_8 hP hS => ?_)
        exact W.lret (v := r_8) hx hb hr (fun tt9 ht hW => ⟨⟨(r_8 : Int64), (), rfl, trivial, trivial⟩, hS.F ht⟩) hS.2.2 dX11_odds_46 hlocks
      · refine lv_ldc2 (v := (-1)) hx hb hown (hts _ k_1074) dX11_odds_34 ?_
        exact W.lret (v := (-1)) hx hb hr (fun tt9 ht hW => ⟨⟨((-1) : Int64), (), rfl, trivial, trivial⟩, hS.F ht⟩) hS.2.2 dX11_odds_37 hlocks
  · refine lv_aload_n hx hb dX11_odds_5 rfl (lv_at hl 0 rfl) ?_
    refine va_get (D := D) (ci := 11) (v := .ref (a 12)) (C := RX11) (T := TX11) (N := 13) hx hb hts inT_X11 hown hK.1 hP 0 rfl rfl 11 (by decide) (hts _ k_494) (fun _ h9 => h9) rfl dX11_odds_6 ?_
    refine eRl (va_runV (As := []) (rest := []) ⟨hx, hb, hml, hown, hts⟩ (c_X7_together l D cI cB cZ cJ tx a y0 y1 y2 H.size) (zV hts k_1205 v_X7_together ⟨Nat.le_of_ble_eq_true rfl, Nat.le_of_ble_eq_true rfl⟩) (pV (pxS hK hP hD [1, 2, 3, 4] (by decide) rfl) hK hP 1 rfl rfl) rfl rfl hl.1 rfl (lv_room (Nat.le_of_ble_eq_true rfl)) dX11_odds_9 ⟨Nat.le_of_ble_eq_true rfl, Nat.le_of_ble_eq_true rfl⟩) hP hS hA (fun r_9 H locs wr_9 hP hS => ?_)
    exact W.lret (v := r_9) hx hb hr (fun tt9 ht hW => ⟨⟨(r_9 : Int64), (), rfl, trivial, trivial⟩, hS.F ht⟩) hS.2.2 dX11_odds_12 hlocks

theorem lf_X11_next_6 (a : Nat → Nat) (ap : Int32) (y0 : Nat → Int32) (y1 : Nat → Int32) (y2 : Nat → Int32) (n1 : Int32) (c_2 : (0 : Int32) ≤ n1 ∧ n1 ≤ 1) (tn1 : Nat) (tn1a : 0 ≤ tn1) (tn1b : tn1 ≤ 1) (tn1e : n1 = nI tn1) (r_3 : Int32) (c_4 : ¬ r_3 = 0) (kb5 : Nat) (hkb5 : kb5 < 6) : 0 ≤ nI kb5 := by
  first | exact nI_pos (by omega) | exact nI_pos' (by omega)
theorem lf_X11_next_9 (a : Nat → Nat) (ap : Int32) (y0 : Nat → Int32) (y1 : Nat → Int32) (y2 : Nat → Int32) (n1 : Int32) (c_2 : (0 : Int32) ≤ n1 ∧ n1 ≤ 1) (tn1 : Nat) (tn1a : 0 ≤ tn1) (tn1b : tn1 ≤ 1) (tn1e : n1 = nI tn1) (r_3 : Int32) (c_4 : ¬ r_3 = 0) (kb5 : Nat) (hkb5 : kb5 < 6) (c_7 : ¬ nI tn1 = 0) : tn1 ≠ 0 := by
  exact fun q => c_7 ((nI_eq (a := tn1) (b := 0) (by omega) (by omega)).mpr q)
theorem lf_X11_next_10 (a : Nat → Nat) (ap : Int32) (y0 : Nat → Int32) (y1 : Nat → Int32) (y2 : Nat → Int32) (n1 : Int32) (c_2 : (0 : Int32) ≤ n1 ∧ n1 ≤ 1) (tn1 : Nat) (tn1a : 0 ≤ tn1) (tn1b : tn1 ≤ 1) (tn1e : n1 = nI tn1) (r_3 : Int32) (c_4 : ¬ r_3 = 0) (kb5 : Nat) (hkb5 : kb5 < 6) (c_7 : ¬ nI tn1 = 0) (n_8 : tn1 ≠ 0) : kb5 < 6 := by
  first | assumption | omega | decide
theorem lf_X11_next_13 (a : Nat → Nat) (ap : Int32) (y0 : Nat → Int32) (y1 : Nat → Int32) (y2 : Nat → Int32) (n1 : Int32) (c_2 : (0 : Int32) ≤ n1 ∧ n1 ≤ 1) (tn1 : Nat) (tn1a : 0 ≤ tn1) (tn1b : tn1 ≤ 1) (tn1e : n1 = nI tn1) (r_3 : Int32) (c_4 : ¬ r_3 = 0) (kb5 : Nat) (hkb5 : kb5 < 6) (c_7 : nI tn1 = 0) : tn1 = 0 := by
  exact (nI_eq (a := tn1) (b := 0) (by omega) (by omega)).mp c_7
set_option maxHeartbeats 4000000 in
set_option maxRecDepth 100000 in
theorem c_X11_next (l : Launch) (D : va_G) (cI cB cZ cJ : ClassId) (tx : List (ClassId × FieldType)) (a : Nat → Nat) (ap : Int32) (y0 : Nat → Int32) (y1 : Nat → Int32) (y2 : Nat → Int32) (n1 : Int32) : RdI l D cI cB cZ cJ tx yX11_next cX11_next 3 (some .int) 4 [.ref (a 0), .int n1] [(a 0, .inr (11, [.ref (a 1), .ref (a 2), .ref (a 3), .ref (a 4), .ref (a 5), .ref (a 6), .ref (a 7), .ref (a 8), .ref (a 9), .ref (a 10), .ref (a 11), .ref (a 12), .int ap])), (a 12, .inr (7, [.ref (a 48), .ref (a 49), .ref (a 50)])), (a 48, .inl (cI, 36, .inl y0)), (a 49, .inl (cZ, 6, .inl y1)), (a 50, .inl (cI, 6, .inl y2))] (fun r => True) := by
  refine rdi_of2 (by decide) (Nat.le_of_ble_eq_true rfl) ?_
  intro p e s m below meth c A ls H locs hC hK hP hD hA hS hl
  obtain ⟨hx, hb, hr, hml, hown, hts, hlocks, hin⟩ := hC
  have hown : s.vm.findClass RX11 = some m.cls := hown
  have hl : lv_has ls 3 [(0, .ref (a 0)), (1, .int n1)] := hl
  refine lv_iload_n hx hb dX11_next_0 rfl (lv_at hl 1 rfl) ?_
  refine lv_iconst (v := 0) hx hb dX11_next_1 (by decide) ?_
  refine lv_iconst (v := 1) hx hb dX11_next_2 (by decide) ?_
  refine eRi (va_runS (As := [.int n1, .int 0, .int 1]) (rest := []) ⟨hx, hb, hml, hown, hts⟩ (c_X11_within l D cI cB cZ cJ tx n1 0 1 H.size) (zS hts k_527 v_X11_within ⟨Nat.le_of_ble_eq_true rfl, Nat.le_of_ble_eq_true rfl⟩) (px0 hK) rfl rfl hl.1 rfl (lv_room (Nat.le_of_ble_eq_true rfl)) dX11_next_3 ⟨Nat.le_of_ble_eq_true rfl, Nat.le_of_ble_eq_true rfl⟩) hP hS hA (fun r_1 H locs wr_1 hP hS => ?_)
  subst wr_1
  refine lv_bi_eq (tgt := 19) hx hb dX11_next_6 (by decide) (fun c_2 => ?_) (fun c_2 => ?_)
  · refine lv_iconst (v := (-1)) hx hb dX11_next_19 (by decide) ?_
    exact W.iret (v := (-1)) hx hb hr (fun tt9 ht hW => ⟨⟨((-1) : Int32), (), rfl, trivial, trivial⟩, hS.F ht⟩) hS.2.2 dX11_next_20 hlocks
  · obtain ⟨tn1, tn1a, tn1b, tn1e⟩ := of_rng 0 1 rfl rfl c_2
    subst tn1e
    refine lv_aload_n hx hb dX11_next_9 rfl (lv_at hl 0 rfl) ?_
    refine va_get (D := D) (ci := 11) (v := .ref (a 12)) (C := RX11) (T := TX11) (N := 13) hx hb hts inT_X11 hown hK.1 hP 0 rfl rfl 11 (by decide) (hts _ k_494) (fun _ h9 => h9) rfl dX11_next_10 ?_
    refine eRi (va_runV (As := []) (rest := []) ⟨hx, hb, hml, hown, hts⟩ (c_X7_told l D cI cB cZ cJ tx a y1 H.size) (zV hts k_1218 v_X7_told ⟨Nat.le_of_ble_eq_true rfl, Nat.le_of_ble_eq_true rfl⟩) (pV (pxS hK hP hD [1, 3] (by decide) rfl) hK hP 1 rfl rfl) rfl rfl hl.1 rfl (lv_room (Nat.le_of_ble_eq_true rfl)) dX11_next_13 ⟨Nat.le_of_ble_eq_true rfl, Nat.le_of_ble_eq_true rfl⟩) hP hS hA (fun r_3 H locs wr_3 hP hS => ?_)
    refine lv_if_ne (tgt := 21) hx hb dX11_next_16 (by decide) (fun c_4 => ?_) (fun c_4 => ?_)
    · refine lv_aload_n hx hb dX11_next_21 rfl (lv_at hl 0 rfl) ?_
      refine va_get (D := D) (ci := 11) (v := .ref (a 12)) (C := RX11) (T := TX11) (N := 13) hx hb hts inT_X11 hown hK.1 hP 0 rfl rfl 11 (by decide) (hts _ k_494) (fun _ h9 => h9) rfl dX11_next_22 ?_
      refine eRi (va_runV (As := []) (rest := []) ⟨hx, hb, hml, hown, hts⟩ (c_X7_partingMost l D cI cB cZ cJ tx a y0 y1 y2 H.size) (zV hts k_1222 v_X7_partingMost ⟨Nat.le_of_ble_eq_true rfl, Nat.le_of_ble_eq_true rfl⟩) (pV (pxS hK hP hD [1, 2, 3, 4] (by decide) rfl) hK hP 1 rfl rfl) rfl rfl hl.1 rfl (lv_room (Nat.le_of_ble_eq_true rfl)) dX11_next_25 ⟨Nat.le_of_ble_eq_true rfl, Nat.le_of_ble_eq_true rfl⟩) hP hS hA (fun r_5 H locs wr_5 hP hS => ?_)
      rcases wr_5 with rfl | ⟨kb5, hkb5, rfl⟩
      · refine lv_istore_n (lv' := [(2, .int (-1)), (0, .ref (a 0)), (1, .int (nI tn1))]) hx hb dX11_next_28 rfl hl (by decide) rfl (fun ls hl => ?_)
        refine lv_iload_n hx hb dX11_next_29 rfl (lv_at hl 0 rfl) ?_
        refine lv_if_ge (tgt := 35) hx hb dX11_next_30 (by decide) (fun c => absurd c (by decide)) (fun _ => ?_)
        refine lv_iconst (v := (-1)) hx hb dX11_next_33 (by decide) ?_
        exact W.iret (v := (-1)) hx hb hr (fun tt9 ht hW => ⟨⟨((-1) : Int32), (), rfl, trivial, trivial⟩, hS.F ht⟩) hS.2.2 dX11_next_34 hlocks
      · refine lv_istore_n (lv' := [(2, .int (nI kb5)), (0, .ref (a 0)), (1, .int (nI tn1))]) hx hb dX11_next_28 rfl hl (by decide) rfl (fun ls hl => ?_)
        refine lv_iload_n hx hb dX11_next_29 rfl (lv_at hl 0 rfl) ?_
        refine lv_if_ge (tgt := 35) hx hb dX11_next_30 (by decide) (fun _ => ?_) (fun c => absurd (lf_X11_next_6 a ap y0 y1 y2 (nI tn1) c_2 tn1 tn1a tn1b rfl r_3 c_4 kb5 hkb5) c)
        refine lv_iload_n hx hb dX11_next_35 rfl (lv_at hl 2 rfl) ?_
        refine lv_if_ne (tgt := 43) hx hb dX11_next_36 (by decide) (fun c_7 => ?_) (fun c_7 => ?_)
        · have n_8 : tn1 ≠ 0 := (lf_X11_next_9 a ap y0 y1 y2 (nI tn1) c_2 tn1 tn1a tn1b rfl r_3 c_4 kb5 hkb5 c_7)
          refine lv_aload_n hx hb dX11_next_43 rfl (lv_at hl 1 rfl) ?_
          refine va_get (D := D) (ci := 11) (v := .ref (a 12)) (C := RX11) (T := TX11) (N := 13) hx hb hts inT_X11 hown hK.1 hP 0 rfl rfl 11 (by decide) (hts _ k_494) (fun _ h9 => h9) rfl dX11_next_44 ?_
          refine lv_iload_n hx hb dX11_next_47 rfl (lv_at hl 0 rfl) ?_
          refine eRi (va_runV (As := [.int (nI kb5)]) (rest := []) ⟨hx, hb, hml, hown, hts⟩ (c_X7_parted l D cI cB cZ cJ tx a y0 y1 y2 kb5 (lf_X11_next_10 a ap y0 y1 y2 (nI tn1) c_2 tn1 tn1a tn1b rfl r_3 c_4 kb5 hkb5 c_7 n_8) H.size) (zV hts k_1235 v_X7_parted ⟨Nat.le_of_ble_eq_true rfl, Nat.le_of_ble_eq_true rfl⟩) (pV (pxS hK hP hD [1, 2, 3, 4] (by decide) rfl) hK hP 1 rfl rfl) rfl rfl hl.1 rfl (lv_room (Nat.le_of_ble_eq_true rfl)) dX11_next_48 ⟨Nat.le_of_ble_eq_true rfl, Nat.le_of_ble_eq_true rfl⟩) hP hS hA (fun r_11 H locs wr_11 hP hS => ?_)
          exact W.iret (v := r_11) hx hb hr (fun tt9 ht hW => ⟨⟨(r_11 : Int32), (), rfl, trivial, trivial⟩, hS.F ht⟩) hS.2.2 dX11_next_51 hlocks
        · have n_12 : tn1 = 0 := (lf_X11_next_13 a ap y0 y1 y2 (nI tn1) c_2 tn1 tn1a tn1b rfl r_3 c_4 kb5 hkb5 c_7)
          refine lv_iload_n hx hb dX11_next_39 rfl (lv_at hl 0 rfl) ?_
          refine lv_goto (tgt := 51) hx hb dX11_next_40 (by decide) ?_
          exact W.iret (v := nI kb5) hx hb hr (fun tt9 ht hW => ⟨⟨(nI kb5 : Int32), (), rfl, trivial, trivial⟩, hS.F ht⟩) hS.2.2 dX11_next_51 hlocks
    · refine lv_iconst (v := (-1)) hx hb dX11_next_19 (by decide) ?_
      exact W.iret (v := (-1)) hx hb hr (fun tt9 ht hW => ⟨⟨((-1) : Int32), (), rfl, trivial, trivial⟩, hS.F ht⟩) hS.2.2 dX11_next_20 hlocks

theorem lf_X11_oars_1 (a : Nat → Nat) (ap : Int32) (sn : Nat) (sk : Nat) (scu : Int32) (sch : Int32) (ot : Nat → Int32) (n1 : Int32) (hsn : sn ≤ 24) (hsk : sk ≤ 8) : sn ≤ 24 := by
  first | assumption | omega | decide
theorem lf_X11_oars_2 (a : Nat → Nat) (ap : Int32) (sn : Nat) (sk : Nat) (scu : Int32) (sch : Int32) (ot : Nat → Int32) (n1 : Int32) (hsn : sn ≤ 24) (hsk : sk ≤ 8) : sk ≤ 8 := by
  first | assumption | omega | decide
theorem lf_X11_oars_5 (a : Nat → Nat) (ap : Int32) (sn : Nat) (sk : Nat) (scu : Int32) (sch : Int32) (ot : Nat → Int32) (n1 : Int32) (hsn : sn ≤ 24) (hsk : sk ≤ 8) (hst3 : 0 < sn) (c_4 : n1 = 0) : sn ≤ 24 := by
  first | assumption | omega | decide
theorem lf_X11_oars_6 (a : Nat → Nat) (ap : Int32) (sn : Nat) (sk : Nat) (scu : Int32) (sch : Int32) (ot : Nat → Int32) (n1 : Int32) (hsn : sn ≤ 24) (hsk : sk ≤ 8) (hst3 : 0 < sn) (c_4 : n1 = 0) : sk ≤ 8 := by
  first | assumption | omega | decide
theorem lf_X11_oars_9 (a : Nat → Nat) (ap : Int32) (sn : Nat) (sk : Nat) (scu : Int32) (sch : Int32) (ot : Nat → Int32) (n1 : Int32) (hsn : sn ≤ 24) (hsk : sk ≤ 8) (hst3 : 0 < sn) (c_4 : ¬ n1 = 0) (c_8 : n1 = 1) : sn ≤ 24 := by
  first | assumption | omega | decide
theorem lf_X11_oars_10 (a : Nat → Nat) (ap : Int32) (sn : Nat) (sk : Nat) (scu : Int32) (sch : Int32) (ot : Nat → Int32) (n1 : Int32) (hsn : sn ≤ 24) (hsk : sk ≤ 8) (hst3 : 0 < sn) (c_4 : ¬ n1 = 0) (c_8 : n1 = 1) : sk ≤ 8 := by
  first | assumption | omega | decide
theorem lf_X11_oars_13 (a : Nat → Nat) (ap : Int32) (sn : Nat) (sk : Nat) (scu : Int32) (sch : Int32) (ot : Nat → Int32) (n1 : Int32) (hsn : sn ≤ 24) (hsk : sk ≤ 8) (hst3 : 0 < sn) (c_4 : ¬ n1 = 0) (c_8 : ¬ n1 = 1) (c_12 : n1 = 2) : sn ≤ 24 := by
  first | assumption | omega | decide
theorem lf_X11_oars_14 (a : Nat → Nat) (ap : Int32) (sn : Nat) (sk : Nat) (scu : Int32) (sch : Int32) (ot : Nat → Int32) (n1 : Int32) (hsn : sn ≤ 24) (hsk : sk ≤ 8) (hst3 : 0 < sn) (c_4 : ¬ n1 = 0) (c_8 : ¬ n1 = 1) (c_12 : n1 = 2) : sk ≤ 8 := by
  first | assumption | omega | decide
theorem lf_X11_oars_17 (a : Nat → Nat) (ap : Int32) (sn : Nat) (sk : Nat) (scu : Int32) (sch : Int32) (ot : Nat → Int32) (n1 : Int32) (hsn : sn ≤ 24) (hsk : sk ≤ 8) (hst3 : 0 < sn) (c_4 : ¬ n1 = 0) (c_8 : ¬ n1 = 1) (c_12 : ¬ n1 = 2) (c_16 : n1 = 3) : sn ≤ 24 := by
  first | assumption | omega | decide
theorem lf_X11_oars_18 (a : Nat → Nat) (ap : Int32) (sn : Nat) (sk : Nat) (scu : Int32) (sch : Int32) (ot : Nat → Int32) (n1 : Int32) (hsn : sn ≤ 24) (hsk : sk ≤ 8) (hst3 : 0 < sn) (c_4 : ¬ n1 = 0) (c_8 : ¬ n1 = 1) (c_12 : ¬ n1 = 2) (c_16 : n1 = 3) : sk ≤ 8 := by
  first | assumption | omega | decide
theorem lf_X11_oars_20 (a : Nat → Nat) (ap : Int32) (sn : Nat) (sk : Nat) (scu : Int32) (sch : Int32) (ot : Nat → Int32) (n1 : Int32) (hsn : sn ≤ 24) (hsk : sk ≤ 8) (hst3 : 0 < sn) (c_4 : ¬ n1 = 0) (c_8 : ¬ n1 = 1) (c_12 : ¬ n1 = 2) (c_16 : ¬ n1 = 3) : n1.toInt < 0 ∨ 3 < n1.toInt := by
  have e : ∀ k : Int32, ¬ n1 = k → n1.toInt ≠ k.toInt := fun k h q => h (Int32.toInt_inj.mp q)
  have e0 := e 0 ‹¬ n1 = 0›
  have z0 : (0 : Int32).toInt = 0 := by decide
  have e1 := e 1 ‹¬ n1 = 1›
  have z1 : (1 : Int32).toInt = 1 := by decide
  have e2 := e 2 ‹¬ n1 = 2›
  have z2 : (2 : Int32).toInt = 2 := by decide
  have e3 := e 3 ‹¬ n1 = 3›
  have z3 : (3 : Int32).toInt = 3 := by decide
  omega
set_option maxHeartbeats 4000000 in
set_option maxRecDepth 100000 in
theorem c_X11_oars (l : Launch) (D : va_G) (cI cB cZ cJ : ClassId) (tx : List (ClassId × FieldType)) (a : Nat → Nat) (ap : Int32) (sn : Nat) (sk : Nat) (scu : Int32) (sch : Int32) (ot : Nat → Int32) (n1 : Int32) (hsn : sn ≤ 24) (hsk : sk ≤ 8) : RdI l D cI cB cZ cJ tx yX11_oars cX11_oars 2 (some .int) 4 [.ref (a 0), .int n1] [(a 0, .inr (11, [.ref (a 1), .ref (a 2), .ref (a 3), .ref (a 4), .ref (a 5), .ref (a 6), .ref (a 7), .ref (a 8), .ref (a 9), .ref (a 10), .ref (a 11), .ref (a 12), .int ap])), (a 10, .inr (10, [.ref (a 5), .ref (a 46)])), (a 5, .inr (4, [.ref (a 18), .ref (a 19), .ref (a 20), .ref (a 21), .ref (a 22), .ref (a 23), .ref (a 24), .int (nI sn), .int (nI sk), .int scu, .int sch])), (a 46, .inl (cI, 48, .inl ot))] (fun r => True) := by
  refine rdi_of2 (by decide) (Nat.le_of_ble_eq_true rfl) ?_
  intro p e s m below meth c A ls H locs hC hK hP hD hA hS hl
  obtain ⟨hx, hb, hr, hml, hown, hts, hlocks, hin⟩ := hC
  have hown : s.vm.findClass RX11 = some m.cls := hown
  have hl : lv_has ls 2 [(0, .ref (a 0)), (1, .int n1)] := hl
  refine lv_aload_n hx hb dX11_oars_0 rfl (lv_at hl 0 rfl) ?_
  refine va_get (D := D) (ci := 11) (v := .ref (a 5)) (C := RX11) (T := TX11) (N := 13) hx hb hts inT_X11 hown hK.1 hP 0 rfl rfl 4 (by decide) (hts _ k_487) (fun _ h9 => h9) rfl dX11_oars_1 ?_
  refine eRi (va_runV (As := []) (rest := []) ⟨hx, hb, hml, hown, hts⟩ (c_X4_stands l D cI cB cZ cJ tx a sn sk scu sch (lf_X11_oars_1 a ap sn sk scu sch ot n1 hsn hsk) (lf_X11_oars_2 a ap sn sk scu sch ot n1 hsn hsk) H.size) (zV hts k_824 v_X4_stands ⟨Nat.le_of_ble_eq_true rfl, Nat.le_of_ble_eq_true rfl⟩) (pV (px1 hK hP 2 rfl) hK hP 2 rfl rfl) rfl rfl hl.1 rfl (lv_room (Nat.le_of_ble_eq_true rfl)) dX11_oars_4 ⟨Nat.le_of_ble_eq_true rfl, Nat.le_of_ble_eq_true rfl⟩) hP hS hA (fun r_3 H locs wr_3 hP hS => ?_)
  rcases wr_3 with ⟨rfl, _⟩ | ⟨rfl, hst3⟩
  · refine lv_if_ne (tgt := 12) hx hb dX11_oars_7 (by decide) (fun c => absurd c (by decide)) (fun _ => ?_)
    refine lv_iconst (v := (-1)) hx hb dX11_oars_10 (by decide) ?_
    exact W.iret (v := (-1)) hx hb hr (fun tt9 ht hW => ⟨⟨((-1) : Int32), (), rfl, trivial, trivial⟩, hS.F ht⟩) hS.2.2 dX11_oars_11 hlocks
  · refine lv_if_ne (tgt := 12) hx hb dX11_oars_7 (by decide) (fun _ => ?_) (fun c => absurd c (by decide))
    refine lv_iload_n hx hb dX11_oars_12 rfl (lv_at hl 1 rfl) ?_
    by_cases c_4 : n1 = 0
    · subst c_4
      refine lv_tableIn (off := 31) (tgt := 44) hx hb dX11_oars_13 (by decide) (by decide) rfl (by decide) ?_
      refine lv_aload_n hx hb dX11_oars_44 rfl (lv_at hl 0 rfl) ?_
      refine va_get (D := D) (ci := 11) (v := .ref (a 10)) (C := RX11) (T := TX11) (N := 13) hx hb hts inT_X11 hown hK.1 hP 0 rfl rfl 9 (by decide) (hts _ k_492) (fun _ h9 => h9) rfl dX11_oars_45 ?_
      refine eRi (va_runV (As := []) (rest := []) ⟨hx, hb, hml, hown, hts⟩ (c_X10_pairsSeen l D cI cB cZ cJ tx a sn sk scu sch ot (lf_X11_oars_5 a ap sn sk scu sch ot 0 hsn hsk hst3 rfl) (lf_X11_oars_6 a ap sn sk scu sch ot 0 hsn hsk hst3 rfl) H.size) (zV hts k_1121 v_X10_pairsSeen ⟨Nat.le_of_ble_eq_true rfl, Nat.le_of_ble_eq_true rfl⟩) (pV (pxS hK hP hD [1, 2, 3] (by decide) rfl) hK hP 1 rfl rfl) rfl rfl hl.1 rfl (lv_room (Nat.le_of_ble_eq_true rfl)) dX11_oars_48 ⟨Nat.le_of_ble_eq_true rfl, Nat.le_of_ble_eq_true rfl⟩) hP hS hA (fun r_7 H locs wr_7 hP hS => ?_)
      exact W.iret (v := r_7) hx hb hr (fun tt9 ht hW => ⟨⟨(r_7 : Int32), (), rfl, trivial, trivial⟩, hS.F ht⟩) hS.2.2 dX11_oars_51 hlocks
    by_cases c_8 : n1 = 1
    · subst c_8
      refine lv_tableIn (off := 39) (tgt := 52) hx hb dX11_oars_13 (by decide) (by decide) rfl (by decide) ?_
      refine lv_aload_n hx hb dX11_oars_52 rfl (lv_at hl 0 rfl) ?_
      refine va_get (D := D) (ci := 11) (v := .ref (a 10)) (C := RX11) (T := TX11) (N := 13) hx hb hts inT_X11 hown hK.1 hP 0 rfl rfl 9 (by decide) (hts _ k_492) (fun _ h9 => h9) rfl dX11_oars_53 ?_
      refine eRi (va_runV (As := []) (rest := []) ⟨hx, hb, hml, hown, hts⟩ (c_X10_pairsThatMayBe l D cI cB cZ cJ tx a sn sk scu sch ot (lf_X11_oars_9 a ap sn sk scu sch ot 1 hsn hsk hst3 c_4 rfl) (lf_X11_oars_10 a ap sn sk scu sch ot 1 hsn hsk hst3 c_4 rfl) H.size) (zV hts k_1134 v_X10_pairsThatMayBe ⟨Nat.le_of_ble_eq_true rfl, Nat.le_of_ble_eq_true rfl⟩) (pV (pxS hK hP hD [1, 2, 3] (by decide) rfl) hK hP 1 rfl rfl) rfl rfl hl.1 rfl (lv_room (Nat.le_of_ble_eq_true rfl)) dX11_oars_56 ⟨Nat.le_of_ble_eq_true rfl, Nat.le_of_ble_eq_true rfl⟩) hP hS hA (fun r_11 H locs wr_11 hP hS => ?_)
      exact W.iret (v := r_11) hx hb hr (fun tt9 ht hW => ⟨⟨(r_11 : Int32), (), rfl, trivial, trivial⟩, hS.F ht⟩) hS.2.2 dX11_oars_59 hlocks
    by_cases c_12 : n1 = 2
    · subst c_12
      refine lv_tableIn (off := 47) (tgt := 60) hx hb dX11_oars_13 (by decide) (by decide) rfl (by decide) ?_
      refine lv_aload_n hx hb dX11_oars_60 rfl (lv_at hl 0 rfl) ?_
      refine va_get (D := D) (ci := 11) (v := .ref (a 10)) (C := RX11) (T := TX11) (N := 13) hx hb hts inT_X11 hown hK.1 hP 0 rfl rfl 9 (by decide) (hts _ k_492) (fun _ h9 => h9) rfl dX11_oars_61 ?_
      refine eRi (va_runV (As := []) (rest := []) ⟨hx, hb, hml, hown, hts⟩ (c_X10_known l D cI cB cZ cJ tx a sn sk scu sch ot (lf_X11_oars_13 a ap sn sk scu sch ot 2 hsn hsk hst3 c_4 c_8 rfl) (lf_X11_oars_14 a ap sn sk scu sch ot 2 hsn hsk hst3 c_4 c_8 rfl) H.size) (zV hts k_1138 v_X10_known ⟨Nat.le_of_ble_eq_true rfl, Nat.le_of_ble_eq_true rfl⟩) (pV (pxS hK hP hD [1, 2, 3] (by decide) rfl) hK hP 1 rfl rfl) rfl rfl hl.1 rfl (lv_room (Nat.le_of_ble_eq_true rfl)) dX11_oars_64 ⟨Nat.le_of_ble_eq_true rfl, Nat.le_of_ble_eq_true rfl⟩) hP hS hA (fun r_15 H locs wr_15 hP hS => ?_)
      exact W.iret (v := r_15) hx hb hr (fun tt9 ht hW => ⟨⟨(r_15 : Int32), (), rfl, trivial, trivial⟩, hS.F ht⟩) hS.2.2 dX11_oars_67 hlocks
    by_cases c_16 : n1 = 3
    · subst c_16
      refine lv_tableIn (off := 55) (tgt := 68) hx hb dX11_oars_13 (by decide) (by decide) rfl (by decide) ?_
      refine lv_aload_n hx hb dX11_oars_68 rfl (lv_at hl 0 rfl) ?_
      refine va_get (D := D) (ci := 11) (v := .ref (a 10)) (C := RX11) (T := TX11) (N := 13) hx hb hts inT_X11 hown hK.1 hP 0 rfl rfl 9 (by decide) (hts _ k_492) (fun _ h9 => h9) rfl dX11_oars_69 ?_
      refine eRi (va_runV (As := []) (rest := []) ⟨hx, hb, hml, hown, hts⟩ (c_X10_seen l D cI cB cZ cJ tx a sn sk scu sch ot (lf_X11_oars_17 a ap sn sk scu sch ot 3 hsn hsk hst3 c_4 c_8 c_12 rfl) (lf_X11_oars_18 a ap sn sk scu sch ot 3 hsn hsk hst3 c_4 c_8 c_12 rfl) H.size) (zV hts k_1146 v_X10_seen ⟨Nat.le_of_ble_eq_true rfl, Nat.le_of_ble_eq_true rfl⟩) (pV (pxS hK hP hD [1, 2, 3] (by decide) rfl) hK hP 1 rfl rfl) rfl rfl hl.1 rfl (lv_room (Nat.le_of_ble_eq_true rfl)) dX11_oars_72 ⟨Nat.le_of_ble_eq_true rfl, Nat.le_of_ble_eq_true rfl⟩) hP hS hA (fun r_19 H locs wr_19 hP hS => ?_)
      exact W.iret (v := r_19) hx hb hr (fun tt9 ht hW => ⟨⟨(r_19 : Int32), (), rfl, trivial, trivial⟩, hS.F ht⟩) hS.2.2 dX11_oars_75 hlocks
    refine lv_tableOut (tgt := 76) hx hb dX11_oars_13 (lf_X11_oars_20 a ap sn sk scu sch ot n1 hsn hsk hst3 c_4 c_8 c_12 c_16) (by decide) ?_
    refine lv_iconst (v := (-1)) hx hb dX11_oars_76 (by decide) ?_
    exact W.iret (v := (-1)) hx hb hr (fun tt9 ht hW => ⟨⟨((-1) : Int32), (), rfl, trivial, trivial⟩, hS.F ht⟩) hS.2.2 dX11_oars_77 hlocks

theorem lf_X11_size_1 (a : Nat → Nat) (ap : Int32) (sn : Nat) (sk : Nat) (scu : Int32) (sch : Int32) (zs : Nat) (zo : Nat) (zh : Nat) (zx : Nat) (g2 : Nat → Int32) (n1 : Int32) (n2 : Int32) (n3 : Int32) (n4 : Int32) (hsn : sn ≤ 24) (hsk : sk ≤ 8) : sn ≤ 24 := by
  first | assumption | omega | decide
theorem lf_X11_size_2 (a : Nat → Nat) (ap : Int32) (sn : Nat) (sk : Nat) (scu : Int32) (sch : Int32) (zs : Nat) (zo : Nat) (zh : Nat) (zx : Nat) (g2 : Nat → Int32) (n1 : Int32) (n2 : Int32) (n3 : Int32) (n4 : Int32) (hsn : sn ≤ 24) (hsk : sk ≤ 8) : sk ≤ 8 := by
  first | assumption | omega | decide
theorem lf_X11_size_4 (a : Nat → Nat) (ap : Int32) (sn : Nat) (sk : Nat) (scu : Int32) (sch : Int32) (zs : Nat) (zo : Nat) (zh : Nat) (zx : Nat) (g2 : Nat → Int32) (n1 : Int32) (n2 : Int32) (n3 : Int32) (n4 : Int32) (hsn : sn ≤ 24) (hsk : sk ≤ 8) (ff3 : Nat) (ss3 : Nat) (dd3 : Nat) (hff3 : ff3 < sn) (hss3 : ss3 < sk) (hdd3 : dd3 < 2) : ¬ nI ((ff3 * 8 + ss3) * 2 + dd3) < 0 := by
  first | exact nI_pos (by omega) | exact nI_pos' (by omega)
theorem lf_X11_size_10 (a : Nat → Nat) (ap : Int32) (sn : Nat) (sk : Nat) (scu : Int32) (sch : Int32) (zs : Nat) (zo : Nat) (zh : Nat) (zx : Nat) (g2 : Nat → Int32) (n1 : Int32) (n2 : Int32) (n3 : Int32) (n4 : Int32) (hsn : sn ≤ 24) (hsk : sk ≤ 8) (ff3 : Nat) (ss3 : Nat) (dd3 : Nat) (hff3 : ff3 < sn) (hss3 : ss3 < sk) (hdd3 : dd3 < 2) (c_6 : (0 : Int32) ≤ n4 ∧ n4 ≤ 99) (tn4 : Nat) (tn4a : 0 ≤ tn4) (tn4b : tn4 ≤ 99) (tn4e : n4 = nI tn4) (r_7 : Int32) (c_8 : r_7 < 60) : vp_in (nI ((ff3 * 8 + ss3) * 2 + dd3)) 384 := by
  first | exact vp_in_nI (by omega) (by decide) | (unfold vp_in; decide)
set_option maxHeartbeats 4000000 in
set_option maxRecDepth 100000 in
theorem c_X11_size (l : Launch) (D : va_G) (cI cB cZ cJ : ClassId) (tx : List (ClassId × FieldType)) (a : Nat → Nat) (ap : Int32) (sn : Nat) (sk : Nat) (scu : Int32) (sch : Int32) (zs : Nat) (zo : Nat) (zh : Nat) (zx : Nat) (g2 : Nat → Int32) (n1 : Int32) (n2 : Int32) (n3 : Int32) (n4 : Int32) (hsn : sn ≤ 24) (hsk : sk ≤ 8) : WrI l D cI cB cZ cJ tx yX11_size cX11_size 6 (some .boolean) 2 0 0 [.ref (a 0), .int n1, .int n2, .int n3, .int n4] [(a 0, .inr (11, [.ref (a 1), .ref (a 2), .ref (a 3), .ref (a 4), .ref (a 5), .ref (a 6), .ref (a 7), .ref (a 8), .ref (a 9), .ref (a 10), .ref (a 11), .ref (a 12), .int ap])), (a 5, .inr (4, [.ref (a 18), .ref (a 19), .ref (a 20), .ref (a 21), .ref (a 22), .ref (a 23), .ref (a 24), .int (nI sn), .int (nI sk), .int scu, .int sch])), (a 9, .inr (5, [.ref (a 5), .ref (a 45), .int (nI zs), .int (nI zo), .int (nI zh), .int (nI zx)])), (a 20, .inl (cI, 384, .inl g2))] (fun (r : Int32) (v : (Nat → Int32)) => True) (fun v => [(a 0, .inr (11, [.ref (a 1), .ref (a 2), .ref (a 3), .ref (a 4), .ref (a 5), .ref (a 6), .ref (a 7), .ref (a 8), .ref (a 9), .ref (a 10), .ref (a 11), .ref (a 12), .int ap])), (a 5, .inr (4, [.ref (a 18), .ref (a 19), .ref (a 20), .ref (a 21), .ref (a 22), .ref (a 23), .ref (a 24), .int (nI sn), .int (nI sk), .int scu, .int sch])), (a 9, .inr (5, [.ref (a 5), .ref (a 45), .int (nI zs), .int (nI zo), .int (nI zh), .int (nI zx)])), (a 20, .inl (cI, 384, .inl v))]) := by
  refine wri_of2 (by decide) (Nat.le_of_ble_eq_true rfl) ?_
  intro p e s m below meth c A ls H locs hC hK hP hD hA hS hl
  obtain ⟨hx, hb, hr, hml, hown, hts, hlocks, hin⟩ := hC
  have hown : s.vm.findClass RX11 = some m.cls := hown
  have hl : lv_has ls 6 [(0, .ref (a 0)), (1, .int n1), (2, .int n2), (3, .int n3), (4, .int n4)] := hl
  refine lv_aload_n hx hb dX11_size_0 rfl (lv_at hl 0 rfl) ?_
  refine va_get (D := D) (ci := 11) (v := .ref (a 5)) (C := RX11) (T := TX11) (N := 13) hx hb hts inT_X11 hown hK.1 hP 0 rfl rfl 4 (by decide) (hts _ k_487) (fun _ h9 => h9) rfl dX11_size_1 ?_
  refine lv_iload_n hx hb dX11_size_4 rfl (lv_at hl 1 rfl) ?_
  refine lv_iload_n hx hb dX11_size_5 rfl (lv_at hl 2 rfl) ?_
  refine lv_iload_n hx hb dX11_size_6 rfl (lv_at hl 3 rfl) ?_
  refine eRi (va_runV (As := [.int n1, .int n2, .int n3]) (rest := []) ⟨hx, hb, hml, hown, hts⟩ (c_X4_rivetAt_a l D cI cB cZ cJ tx a sn sk scu sch n1 n2 n3 (lf_X11_size_1 a ap sn sk scu sch zs zo zh zx g2 n1 n2 n3 n4 hsn hsk) (lf_X11_size_2 a ap sn sk scu sch zs zo zh zx g2 n1 n2 n3 n4 hsn hsk) H.size) (zV hts k_850 v_X4_rivetAt ⟨Nat.le_of_ble_eq_true rfl, Nat.le_of_ble_eq_true rfl⟩) (pV (px1 hK hP 1 rfl) hK hP 1 rfl rfl) rfl rfl hl.1 rfl (lv_room (Nat.le_of_ble_eq_true rfl)) dX11_size_7 ⟨Nat.le_of_ble_eq_true rfl, Nat.le_of_ble_eq_true rfl⟩) hP hS hA (fun r_3 H locs wr_3 hP hS => ?_)
  rcases wr_3 with rfl | ⟨ff3, ss3, dd3, hff3, hss3, hdd3, rfl, rfl, rfl, rfl⟩
  · refine lv_istore (lv' := [(5, .int (-1)), (0, .ref (a 0)), (1, .int n1), (2, .int n2), (3, .int n3), (4, .int n4)]) hx hb dX11_size_10 hl (by decide) rfl (fun ls hl => ?_)
    refine lv_iload hx hb dX11_size_12 (lv_at hl 0 rfl) ?_
    refine lv_if_lt (tgt := 42) hx hb dX11_size_14 (by decide) (fun _ => ?_) (fun c => absurd c (by decide))
    refine lv_iconst (v := 0) hx hb dX11_size_42 (by decide) ?_
    exact W.zret (v := 0) hx hb hr (by decide) (fun tt9 ht hW => ⟨⟨(0 : Int32), ((g2 : Nat → Int32)), rfl, trivial, ⟨by rw [ht]; exact hP, hD⟩⟩, hS.F ht⟩) hS.2.2 dX11_size_43 hlocks
  · refine lv_istore (lv' := [(5, .int (nI ((ff3 * 8 + ss3) * 2 + dd3))), (0, .ref (a 0)), (1, .int (nI ff3)), (2, .int (nI ss3)), (3, .int (nI dd3)), (4, .int n4)]) hx hb dX11_size_10 hl (by decide) rfl (fun ls hl => ?_)
    refine lv_iload hx hb dX11_size_12 (lv_at hl 0 rfl) ?_
    refine lv_if_lt (tgt := 42) hx hb dX11_size_14 (by decide) (fun c => absurd c (lf_X11_size_4 a ap sn sk scu sch zs zo zh zx g2 (nI ff3) (nI ss3) (nI dd3) n4 hsn hsk ff3 ss3 dd3 hff3 hss3 hdd3)) (fun _ => ?_)
    refine lv_iload hx hb dX11_size_17 (lv_at hl 5 rfl) ?_
    refine lv_iconst (v := 0) hx hb dX11_size_19 (by decide) ?_
    refine lv_bipush (v := 99) hx hb dX11_size_20 (by decide) ?_
    refine eRi (va_runS (As := [.int n4, .int 0, .int 99]) (rest := []) ⟨hx, hb, hml, hown, hts⟩ (c_X11_within l D cI cB cZ cJ tx n4 0 99 H.size) (zS hts k_527 v_X11_within ⟨Nat.le_of_ble_eq_true rfl, Nat.le_of_ble_eq_true rfl⟩) (px0 hK) rfl rfl hl.1 rfl (lv_room (Nat.le_of_ble_eq_true rfl)) dX11_size_22 ⟨Nat.le_of_ble_eq_true rfl, Nat.le_of_ble_eq_true rfl⟩) hP hS hA (fun r_5 H locs wr_5 hP hS => ?_)
    subst wr_5
    refine lv_bi_eq (tgt := 42) hx hb dX11_size_25 (by decide) (fun c_6 => ?_) (fun c_6 => ?_)
    · refine lv_iconst (v := 0) hx hb dX11_size_42 (by decide) ?_
      exact W.zret (v := 0) hx hb hr (by decide) (fun tt9 ht hW => ⟨⟨(0 : Int32), ((g2 : Nat → Int32)), rfl, trivial, ⟨by rw [ht]; exact hP, hD⟩⟩, hS.F ht⟩) hS.2.2 dX11_size_43 hlocks
    · obtain ⟨tn4, tn4a, tn4b, tn4e⟩ := of_rng 0 99 rfl rfl c_6
      subst tn4e
      refine lv_aload_n hx hb dX11_size_28 rfl (lv_at hl 1 rfl) ?_
      refine va_get (D := D) (ci := 11) (v := .ref (a 9)) (C := RX11) (T := TX11) (N := 13) hx hb hts inT_X11 hown hK.1 hP 0 rfl rfl 8 (by decide) (hts _ k_491) (fun _ h9 => h9) rfl dX11_size_29 ?_
      refine lv_iload hx hb dX11_size_32 (lv_at hl 0 rfl) ?_
      refine eRi (va_runV (As := [.int (nI ((ff3 * 8 + ss3) * 2 + dd3))]) (rest := []) ⟨hx, hb, hml, hown, hts⟩ (c_X5_othersWith l D cI cB cZ cJ tx a zs zo zh zx sn sk scu sch g2 (nI ((ff3 * 8 + ss3) * 2 + dd3)) H.size) (zV hts k_1066 v_X5_othersWith ⟨Nat.le_of_ble_eq_true rfl, Nat.le_of_ble_eq_true rfl⟩) (pV (pxS hK hP hD [2, 1, 3] (by decide) rfl) hK hP 2 rfl rfl) rfl rfl hl.1 rfl (lv_room (Nat.le_of_ble_eq_true rfl)) dX11_size_34 ⟨Nat.le_of_ble_eq_true rfl, Nat.le_of_ble_eq_true rfl⟩) hP hS hA (fun r_7 H locs wr_7 hP hS => ?_)
      refine lv_bipush (v := 60) hx hb dX11_size_37 (by decide) ?_
      refine lv_icmp_lt (tgt := 44) hx hb dX11_size_39 (by decide) (fun c_8 => ?_) (fun c_8 => ?_)
      · refine lv_aload_n hx hb dX11_size_44 rfl (lv_at hl 1 rfl) ?_
        refine va_get (D := D) (ci := 11) (v := .ref (a 5)) (C := RX11) (T := TX11) (N := 13) hx hb hts inT_X11 hown hK.1 hP 0 rfl rfl 4 (by decide) (hts _ k_487) (fun _ h9 => h9) rfl dX11_size_45 ?_
        refine va_getN (D := D) (ci := 4) (v := .ref (a 20)) (C := RX4) (T := TX4) (N := 11) hx hb hts inT_X4 hown hK.1 hP 1 rfl rfl 2 (by decide) (va_Nw.use rfl (hK.2.2.1 _ n_240)) (fun _ h9 => h9) rfl dX11_size_48 ?_
        refine lv_iload hx hb dX11_size_51 (lv_at hl 0 rfl) ?_
        refine lv_iload hx hb dX11_size_53 (lv_at hl 5 rfl) ?_
        refine st_i hx hb hK hP hD hS 3 rfl (lf_X11_size_10 a ap sn sk scu sch zs zo zh zx g2 (nI ff3) (nI ss3) (nI dd3) (nI tn4) hsn hsk ff3 ss3 dd3 hff3 hss3 hdd3 c_6 tn4 tn4a tn4b rfl r_7 c_8) dX11_size_55 (fun f_9 H locs hP hD hS => ?_)
        have hP : va_P D vwCl [(a 0, .inr (11, [.ref (a 1), .ref (a 2), .ref (a 3), .ref (a 4), .ref (a 5), .ref (a 6), .ref (a 7), .ref (a 8), .ref (a 9), .ref (a 10), .ref (a 11), .ref (a 12), .int ap])), (a 5, .inr (4, [.ref (a 18), .ref (a 19), .ref (a 20), .ref (a 21), .ref (a 22), .ref (a 23), .ref (a 24), .int (nI sn), .int (nI sk), .int scu, .int sch])), (a 9, .inr (5, [.ref (a 5), .ref (a 45), .int (nI zs), .int (nI zo), .int (nI zh), .int (nI zx)])), (a 20, .inl (cI, 384, .inl f_9))] H := hP
        have hD : va_D A [(a 0, .inr (11, [.ref (a 1), .ref (a 2), .ref (a 3), .ref (a 4), .ref (a 5), .ref (a 6), .ref (a 7), .ref (a 8), .ref (a 9), .ref (a 10), .ref (a 11), .ref (a 12), .int ap])), (a 5, .inr (4, [.ref (a 18), .ref (a 19), .ref (a 20), .ref (a 21), .ref (a 22), .ref (a 23), .ref (a 24), .int (nI sn), .int (nI sk), .int scu, .int sch])), (a 9, .inr (5, [.ref (a 5), .ref (a 45), .int (nI zs), .int (nI zo), .int (nI zh), .int (nI zx)])), (a 20, .inl (cI, 384, .inl f_9))] := hD
        refine lv_iconst (v := 1) hx hb dX11_size_56 (by decide) ?_
        exact W.zret (v := 1) hx hb hr (by decide) (fun tt9 ht hW => ⟨⟨(1 : Int32), ((f_9 : Nat → Int32)), rfl, trivial, ⟨by rw [ht]; exact hP, hD⟩⟩, hS.F ht⟩) hS.2.2 dX11_size_57 hlocks
      · refine lv_iconst (v := 0) hx hb dX11_size_42 (by decide) ?_
        exact W.zret (v := 0) hx hb hr (by decide) (fun tt9 ht hW => ⟨⟨(0 : Int32), ((g2 : Nat → Int32)), rfl, trivial, ⟨by rw [ht]; exact hP, hD⟩⟩, hS.F ht⟩) hS.2.2 dX11_size_43 hlocks

theorem lf_X0_hasMark_a_3 (a : Nat → Nat) (dm : Nat) (d2 : Nat → Int32) (x2 : Nat) (n1 : Int32) (hdm : dm ≤ 4) (hx2 : x2 < 384) (c_2 : ¬ ((0 : Int32) ≤ n1 ∧ n1 ≤ nI dm - 1)) : ((0 : Int32) = 0) ∨ (∃ f : Nat, f < dm ∧ n1 = nI f ∧ (0 : Int32) = 1) := by
  first | exact Or.inl rfl | exact Or.inr ⟨tn1, tn1a, tn1e, rfl⟩
theorem lf_X0_hasMark_a_4 (a : Nat → Nat) (dm : Nat) (d2 : Nat → Int32) (x2 : Nat) (n1 : Int32) (hdm : dm ≤ 4) (hx2 : x2 < 384) (c_2 : (0 : Int32) ≤ n1 ∧ n1 ≤ nI dm - 1) : dm < 2 ^ 31 := by
  omega
theorem lf_X0_hasMark_a_7 (a : Nat → Nat) (dm : Nat) (d2 : Nat → Int32) (x2 : Nat) (n1 : Int32) (hdm : dm ≤ 4) (hx2 : x2 < 384) (c_2 : (0 : Int32) ≤ n1 ∧ n1 ≤ nI dm - 1) (tn1 : Nat) (tn1a : tn1 < dm) (tn1e : n1 = nI tn1) (c_6 : ¬ ((0 : Int32) ≤ nI x2 ∧ nI x2 ≤ 383)) : ((0 : Int32) = 0) ∨ (∃ f : Nat, f < dm ∧ n1 = nI f ∧ (0 : Int32) = 1) := by
  first | exact Or.inl rfl | exact Or.inr ⟨tn1, tn1a, tn1e, rfl⟩
theorem lf_X0_hasMark_a_8 (a : Nat → Nat) (dm : Nat) (d2 : Nat → Int32) (x2 : Nat) (n1 : Int32) (hdm : dm ≤ 4) (hx2 : x2 < 384) (c_2 : (0 : Int32) ≤ n1 ∧ n1 ≤ nI dm - 1) (tn1 : Nat) (tn1a : tn1 < dm) (tn1e : n1 = nI tn1) (c_6 : (0 : Int32) ≤ nI x2 ∧ nI x2 ≤ 383) : vp_in (nI ((tn1 * 384) + x2)) 1536 := by
  first | exact vp_in_nI (by omega) (by decide) | (unfold vp_in; decide)
theorem lf_X0_hasMark_a_11 (a : Nat → Nat) (dm : Nat) (d2 : Nat → Int32) (x2 : Nat) (n1 : Int32) (hdm : dm ≤ 4) (hx2 : x2 < 384) (c_2 : (0 : Int32) ≤ n1 ∧ n1 ≤ nI dm - 1) (tn1 : Nat) (tn1a : tn1 < dm) (tn1e : n1 = nI tn1) (c_6 : (0 : Int32) ≤ nI x2 ∧ nI x2 ≤ 383) (x_9 : Int32) (c_10 : x_9 = 0) : ((0 : Int32) = 0) ∨ (∃ f : Nat, f < dm ∧ n1 = nI f ∧ (0 : Int32) = 1) := by
  first | exact Or.inl rfl | exact Or.inr ⟨tn1, tn1a, tn1e, rfl⟩
theorem lf_X0_hasMark_a_12 (a : Nat → Nat) (dm : Nat) (d2 : Nat → Int32) (x2 : Nat) (n1 : Int32) (hdm : dm ≤ 4) (hx2 : x2 < 384) (c_2 : (0 : Int32) ≤ n1 ∧ n1 ≤ nI dm - 1) (tn1 : Nat) (tn1a : tn1 < dm) (tn1e : n1 = nI tn1) (c_6 : (0 : Int32) ≤ nI x2 ∧ nI x2 ≤ 383) (x_9 : Int32) (c_10 : ¬ x_9 = 0) : ((1 : Int32) = 0) ∨ (∃ f : Nat, f < dm ∧ n1 = nI f ∧ (1 : Int32) = 1) := by
  first | exact Or.inl rfl | exact Or.inr ⟨tn1, tn1a, tn1e, rfl⟩
set_option maxHeartbeats 4000000 in
set_option maxRecDepth 100000 in
theorem c_X0_hasMark_a (l : Launch) (D : va_G) (cI cB cZ cJ : ClassId) (tx : List (ClassId × FieldType)) (a : Nat → Nat) (dm : Nat) (d2 : Nat → Int32) (x2 : Nat) (n1 : Int32) (hdm : dm ≤ 4) (hx2 : x2 < 384) : RdI l D cI cB cZ cJ tx yX0_hasMark cX0_hasMark 3 (some .boolean) 2 [.ref (a 6), .int n1, .int (nI x2)] [(a 6, .inr (0, [.ref (a 5), .ref (a 25), .ref (a 26), .ref (a 27), .ref (a 28), .ref (a 29), .int (nI dm)])), (a 27, .inl (cZ, 1536, .inl d2))] (fun r => (r = 0) ∨ (∃ f : Nat, f < dm ∧ n1 = nI f ∧ r = 1)) := by
  refine rdi_of2 (by decide) (Nat.le_of_ble_eq_true rfl) ?_
  intro p e s m below meth c A ls H locs hC hK hP hD hA hS hl
  obtain ⟨hx, hb, hr, hml, hown, hts, hlocks, hin⟩ := hC
  have hown : s.vm.findClass RX0 = some m.cls := hown
  have hl : lv_has ls 3 [(0, .ref (a 6)), (1, .int n1), (2, .int (nI x2))] := hl
  refine lv_aload_n hx hb dX0_hasMark_0 rfl (lv_at hl 0 rfl) ?_
  refine lv_iload_n hx hb dX0_hasMark_1 rfl (lv_at hl 1 rfl) ?_
  refine eRi (va_runV (As := [.int n1]) (rest := []) ⟨hx, hb, hml, hown, hts⟩ (c_X0_has l D cI cB cZ cJ tx a dm n1 H.size) (zV hts k_928 v_X0_has ⟨Nat.le_of_ble_eq_true rfl, Nat.le_of_ble_eq_true rfl⟩) (pV (px1 hK hP 0 rfl) hK hP 0 rfl rfl) rfl rfl hl.1 rfl (lv_room (Nat.le_of_ble_eq_true rfl)) dX0_hasMark_2 ⟨Nat.le_of_ble_eq_true rfl, Nat.le_of_ble_eq_true rfl⟩) hP hS hA (fun r_1 H locs wr_1 hP hS => ?_)
  subst wr_1
  refine lv_bi_eq (tgt := 38) hx hb dX0_hasMark_5 (by decide) (fun c_2 => ?_) (fun c_2 => ?_)
  · refine lv_iconst (v := 0) hx hb dX0_hasMark_38 (by decide) ?_
    exact W.zret (v := 0) hx hb hr (by decide) (fun tt9 ht hW => ⟨⟨(0 : Int32), (), rfl, (lf_X0_hasMark_a_3 a dm d2 x2 n1 hdm hx2 c_2), trivial⟩, hS.F ht⟩) hS.2.2 dX0_hasMark_39 hlocks
  · obtain ⟨tn1, tn1a, tn1e⟩ := of_within (lf_X0_hasMark_a_4 a dm d2 x2 n1 hdm hx2 c_2) c_2
    subst tn1e
    refine lv_iload_n hx hb dX0_hasMark_8 rfl (lv_at hl 2 rfl) ?_
    refine lv_iconst (v := 0) hx hb dX0_hasMark_9 (by decide) ?_
    refine lv_sipush (v := 383) hx hb dX0_hasMark_10 (by decide) ?_
    refine eRi (va_runSN (As := [.int (nI x2), .int 0, .int 383]) (rest := []) ⟨hx, hb, hml, hown, hts⟩ (c_X11_within l D cI cB cZ cJ tx (nI x2) 0 383 H.size) (zSN hts hK n_903 v_X11_within ⟨Nat.le_of_ble_eq_true rfl, Nat.le_of_ble_eq_true rfl⟩) (px0 hK) rfl rfl hl.1 rfl (lv_room (Nat.le_of_ble_eq_true rfl)) dX0_hasMark_13 ⟨Nat.le_of_ble_eq_true rfl, Nat.le_of_ble_eq_true rfl⟩) hP hS hA (fun r_5 H locs wr_5 hP hS => ?_)
    subst wr_5
    refine lv_bi_eq (tgt := 38) hx hb dX0_hasMark_16 (by decide) (fun c_6 => ?_) (fun c_6 => ?_)
    · refine lv_iconst (v := 0) hx hb dX0_hasMark_38 (by decide) ?_
      exact W.zret (v := 0) hx hb hr (by decide) (fun tt9 ht hW => ⟨⟨(0 : Int32), (), rfl, (lf_X0_hasMark_a_7 a dm d2 x2 (nI tn1) hdm hx2 c_2 tn1 tn1a rfl c_6), trivial⟩, hS.F ht⟩) hS.2.2 dX0_hasMark_39 hlocks
    · refine lv_aload_n hx hb dX0_hasMark_19 rfl (lv_at hl 0 rfl) ?_
      refine va_get (D := D) (ci := 0) (v := .ref (a 27)) (C := RX0) (T := TX0) (N := 7) hx hb hts inT_X0 hown hK.1 hP 0 rfl rfl 3 (by decide) (hts _ k_297) (fun _ h9 => h9) rfl dX0_hasMark_20 ?_
      refine lv_iload_n hx hb dX0_hasMark_23 rfl (lv_at hl 1 rfl) ?_
      refine lv_sipush (v := 384) hx hb dX0_hasMark_24 (by decide) ?_
      refine lv_imul hx hb dX0_hasMark_27 ?_
      refine lv_topv (y := nI (tn1 * 384)) (pk_mul tn1 384) ?_
      refine lv_iload_n hx hb dX0_hasMark_28 rfl (lv_at hl 2 rfl) ?_
      refine lv_iadd hx hb dX0_hasMark_29 ?_
      refine lv_topv (y := nI ((tn1 * 384) + x2)) (nI_add (tn1 * 384) x2) ?_
      refine ld_z hx hb hK hP 1 rfl (lf_X0_hasMark_a_8 a dm d2 x2 (nI tn1) hdm hx2 c_2 tn1 tn1a rfl c_6) dX0_hasMark_30 (fun x_9 => ?_)
      refine lv_if_eq (tgt := 38) hx hb dX0_hasMark_31 (by decide) (fun c_10 => ?_) (fun c_10 => ?_)
      · refine lv_iconst (v := 0) hx hb dX0_hasMark_38 (by decide) ?_
        exact W.zret (v := 0) hx hb hr (by decide) (fun tt9 ht hW => ⟨⟨(0 : Int32), (), rfl, (lf_X0_hasMark_a_11 a dm d2 x2 (nI tn1) hdm hx2 c_2 tn1 tn1a rfl c_6 x_9 c_10), trivial⟩, hS.F ht⟩) hS.2.2 dX0_hasMark_39 hlocks
      · refine lv_iconst (v := 1) hx hb dX0_hasMark_34 (by decide) ?_
        refine lv_goto (tgt := 39) hx hb dX0_hasMark_35 (by decide) ?_
        exact W.zret (v := 1) hx hb hr (by decide) (fun tt9 ht hW => ⟨⟨(1 : Int32), (), rfl, (lf_X0_hasMark_a_12 a dm d2 x2 (nI tn1) hdm hx2 c_2 tn1 tn1a rfl c_6 x_9 c_10), trivial⟩, hS.F ht⟩) hS.2.2 dX0_hasMark_39 hlocks

theorem lf_X11_body_7 (a : Nat → Nat) (ap : Int32) (bc : Int32) (br : Int32) (bm : Int32) (ba : Int32) (bp : Int32) (pc_ : Nat → Int32) (n1 : Int32) (n2 : Int32) (n3 : Int32) (c_2 : (1 : Int32) ≤ n1 ∧ n1 ≤ 12) (tn1 : Nat) (tn1a : 1 ≤ tn1) (tn1b : tn1 ≤ 12) (tn1e : n1 = nI tn1) (c_4 : (1 : Int32) ≤ n2 ∧ n2 ≤ 6) (tn2 : Nat) (tn2a : 1 ≤ tn2) (tn2b : tn2 ≤ 6) (tn2e : n2 = nI tn2) (c_6 : (0 : Int32) ≤ n3 ∧ n3 ≤ 4) (tn3 : Nat) (tn3a : 0 ≤ tn3) (tn3b : tn3 ≤ 4) (tn3e : n3 = nI tn3) : 1 ≤ tn1 := by
  first | assumption | omega | decide
theorem lf_X11_body_8 (a : Nat → Nat) (ap : Int32) (bc : Int32) (br : Int32) (bm : Int32) (ba : Int32) (bp : Int32) (pc_ : Nat → Int32) (n1 : Int32) (n2 : Int32) (n3 : Int32) (c_2 : (1 : Int32) ≤ n1 ∧ n1 ≤ 12) (tn1 : Nat) (tn1a : 1 ≤ tn1) (tn1b : tn1 ≤ 12) (tn1e : n1 = nI tn1) (c_4 : (1 : Int32) ≤ n2 ∧ n2 ≤ 6) (tn2 : Nat) (tn2a : 1 ≤ tn2) (tn2b : tn2 ≤ 6) (tn2e : n2 = nI tn2) (c_6 : (0 : Int32) ≤ n3 ∧ n3 ≤ 4) (tn3 : Nat) (tn3a : 0 ≤ tn3) (tn3b : tn3 ≤ 4) (tn3e : n3 = nI tn3) : tn1 ≤ 12 := by
  first | assumption | omega | decide
theorem lf_X11_body_9 (a : Nat → Nat) (ap : Int32) (bc : Int32) (br : Int32) (bm : Int32) (ba : Int32) (bp : Int32) (pc_ : Nat → Int32) (n1 : Int32) (n2 : Int32) (n3 : Int32) (c_2 : (1 : Int32) ≤ n1 ∧ n1 ≤ 12) (tn1 : Nat) (tn1a : 1 ≤ tn1) (tn1b : tn1 ≤ 12) (tn1e : n1 = nI tn1) (c_4 : (1 : Int32) ≤ n2 ∧ n2 ≤ 6) (tn2 : Nat) (tn2a : 1 ≤ tn2) (tn2b : tn2 ≤ 6) (tn2e : n2 = nI tn2) (c_6 : (0 : Int32) ≤ n3 ∧ n3 ≤ 4) (tn3 : Nat) (tn3a : 0 ≤ tn3) (tn3b : tn3 ≤ 4) (tn3e : n3 = nI tn3) : 1 ≤ tn2 := by
  first | assumption | omega | decide
theorem lf_X11_body_10 (a : Nat → Nat) (ap : Int32) (bc : Int32) (br : Int32) (bm : Int32) (ba : Int32) (bp : Int32) (pc_ : Nat → Int32) (n1 : Int32) (n2 : Int32) (n3 : Int32) (c_2 : (1 : Int32) ≤ n1 ∧ n1 ≤ 12) (tn1 : Nat) (tn1a : 1 ≤ tn1) (tn1b : tn1 ≤ 12) (tn1e : n1 = nI tn1) (c_4 : (1 : Int32) ≤ n2 ∧ n2 ≤ 6) (tn2 : Nat) (tn2a : 1 ≤ tn2) (tn2b : tn2 ≤ 6) (tn2e : n2 = nI tn2) (c_6 : (0 : Int32) ≤ n3 ∧ n3 ≤ 4) (tn3 : Nat) (tn3a : 0 ≤ tn3) (tn3b : tn3 ≤ 4) (tn3e : n3 = nI tn3) : tn2 ≤ 6 := by
  first | assumption | omega | decide
theorem lf_X11_body_17 (a : Nat → Nat) (ap : Int32) (bc : Int32) (br : Int32) (bm : Int32) (ba : Int32) (bp : Int32) (pc_ : Nat → Int32) (n1 : Int32) (n2 : Int32) (n3 : Int32) (c_2 : (1 : Int32) ≤ n1 ∧ n1 ≤ 12) (tn1 : Nat) (tn1a : 1 ≤ tn1) (tn1b : tn1 ≤ 12) (tn1e : n1 = nI tn1) (c_4 : (1 : Int32) ≤ n2 ∧ n2 ≤ 6) (tn2 : Nat) (tn2a : 1 ≤ tn2) (tn2b : tn2 ≤ 6) (tn2e : n2 = nI tn2) (c_6 : (0 : Int32) ≤ n3 ∧ n3 ≤ 4) (tn3 : Nat) (tn3a : 0 ≤ tn3) (tn3b : tn3 ≤ 4) (tn3e : n3 = nI tn3) (bc_12 : Int32) (br_12 : Int32) (bm_12 : Int32) (ba_12 : Int32) (bp_12 : Int32) (c_13 : ¬ tn3 = 0) (c_14 : ¬ tn3 = 1) (c_15 : ¬ tn3 = 2) (c_16 : ¬ tn3 = 3) : (nI tn3).toInt < 0 ∨ 3 < (nI tn3).toInt := by
  right
  rw [nI_toInt (by omega)]
  omega
set_option maxHeartbeats 4000000 in
set_option maxRecDepth 100000 in
theorem c_X11_body (l : Launch) (D : va_G) (cI cB cZ cJ : ClassId) (tx : List (ClassId × FieldType)) (a : Nat → Nat) (ap : Int32) (bc : Int32) (br : Int32) (bm : Int32) (ba : Int32) (bp : Int32) (pc_ : Nat → Int32) (n1 : Int32) (n2 : Int32) (n3 : Int32) : WrI l D cI cB cZ cJ tx yX11_body cX11_body 4 (some .int) 2 0 0 [.ref (a 0), .int n1, .int n2, .int n3] [(a 0, .inr (11, [.ref (a 1), .ref (a 2), .ref (a 3), .ref (a 4), .ref (a 5), .ref (a 6), .ref (a 7), .ref (a 8), .ref (a 9), .ref (a 10), .ref (a 11), .ref (a 12), .int ap])), (a 11, .inr (6, [.ref (a 47), .int bc, .int br, .int bm, .int ba, .int bp])), (a 47, .inl (cI, 72, .inl pc_))] (fun (r : Int32) (v : (Int32) × (Int32) × (Int32) × (Int32) × (Int32)) => True) (fun v => [(a 0, .inr (11, [.ref (a 1), .ref (a 2), .ref (a 3), .ref (a 4), .ref (a 5), .ref (a 6), .ref (a 7), .ref (a 8), .ref (a 9), .ref (a 10), .ref (a 11), .ref (a 12), .int ap])), (a 11, .inr (6, [.ref (a 47), .int v.1, .int v.2.1, .int v.2.2.1, .int v.2.2.2.1, .int v.2.2.2.2])), (a 47, .inl (cI, 72, .inl pc_))]) := by
  refine wri_of2 (by decide) (Nat.le_of_ble_eq_true rfl) ?_
  intro p e s m below meth c A ls H locs hC hK hP hD hA hS hl
  obtain ⟨hx, hb, hr, hml, hown, hts, hlocks, hin⟩ := hC
  have hown : s.vm.findClass RX11 = some m.cls := hown
  have hl : lv_has ls 4 [(0, .ref (a 0)), (1, .int n1), (2, .int n2), (3, .int n3)] := hl
  refine lv_iload_n hx hb dX11_body_0 rfl (lv_at hl 1 rfl) ?_
  refine lv_iconst (v := 1) hx hb dX11_body_1 (by decide) ?_
  refine lv_bipush (v := 12) hx hb dX11_body_2 (by decide) ?_
  refine eRi (va_runS (As := [.int n1, .int 1, .int 12]) (rest := []) ⟨hx, hb, hml, hown, hts⟩ (c_X11_within l D cI cB cZ cJ tx n1 1 12 H.size) (zS hts k_527 v_X11_within ⟨Nat.le_of_ble_eq_true rfl, Nat.le_of_ble_eq_true rfl⟩) (px0 hK) rfl rfl hl.1 rfl (lv_room (Nat.le_of_ble_eq_true rfl)) dX11_body_4 ⟨Nat.le_of_ble_eq_true rfl, Nat.le_of_ble_eq_true rfl⟩) hP hS hA (fun r_1 H locs wr_1 hP hS => ?_)
  subst wr_1
  refine lv_bi_eq (tgt := 29) hx hb dX11_body_7 (by decide) (fun c_2 => ?_) (fun c_2 => ?_)
  · refine lv_iconst (v := (-1)) hx hb dX11_body_29 (by decide) ?_
    exact W.iret (v := (-1)) hx hb hr (fun tt9 ht hW => ⟨⟨((-1) : Int32), ((bc : Int32), (br : Int32), (bm : Int32), (ba : Int32), (bp : Int32)), rfl, trivial, ⟨by rw [ht]; exact hP, hD⟩⟩, hS.F ht⟩) hS.2.2 dX11_body_30 hlocks
  · obtain ⟨tn1, tn1a, tn1b, tn1e⟩ := of_rng 1 12 rfl rfl c_2
    subst tn1e
    refine lv_iload_n hx hb dX11_body_10 rfl (lv_at hl 2 rfl) ?_
    refine lv_iconst (v := 1) hx hb dX11_body_11 (by decide) ?_
    refine lv_bipush (v := 6) hx hb dX11_body_12 (by decide) ?_
    refine eRi (va_runS (As := [.int n2, .int 1, .int 6]) (rest := []) ⟨hx, hb, hml, hown, hts⟩ (c_X11_within l D cI cB cZ cJ tx n2 1 6 H.size) (zS hts k_527 v_X11_within ⟨Nat.le_of_ble_eq_true rfl, Nat.le_of_ble_eq_true rfl⟩) (px0 hK) rfl rfl hl.1 rfl (lv_room (Nat.le_of_ble_eq_true rfl)) dX11_body_14 ⟨Nat.le_of_ble_eq_true rfl, Nat.le_of_ble_eq_true rfl⟩) hP hS hA (fun r_3 H locs wr_3 hP hS => ?_)
    subst wr_3
    refine lv_bi_eq (tgt := 29) hx hb dX11_body_17 (by decide) (fun c_4 => ?_) (fun c_4 => ?_)
    · refine lv_iconst (v := (-1)) hx hb dX11_body_29 (by decide) ?_
      exact W.iret (v := (-1)) hx hb hr (fun tt9 ht hW => ⟨⟨((-1) : Int32), ((bc : Int32), (br : Int32), (bm : Int32), (ba : Int32), (bp : Int32)), rfl, trivial, ⟨by rw [ht]; exact hP, hD⟩⟩, hS.F ht⟩) hS.2.2 dX11_body_30 hlocks
    · obtain ⟨tn2, tn2a, tn2b, tn2e⟩ := of_rng 1 6 rfl rfl c_4
      subst tn2e
      refine lv_iload_n hx hb dX11_body_20 rfl (lv_at hl 3 rfl) ?_
      refine lv_iconst (v := 0) hx hb dX11_body_21 (by decide) ?_
      refine lv_iconst (v := 4) hx hb dX11_body_22 (by decide) ?_
      refine eRi (va_runS (As := [.int n3, .int 0, .int 4]) (rest := []) ⟨hx, hb, hml, hown, hts⟩ (c_X11_within l D cI cB cZ cJ tx n3 0 4 H.size) (zS hts k_527 v_X11_within ⟨Nat.le_of_ble_eq_true rfl, Nat.le_of_ble_eq_true rfl⟩) (px0 hK) rfl rfl hl.1 rfl (lv_room (Nat.le_of_ble_eq_true rfl)) dX11_body_23 ⟨Nat.le_of_ble_eq_true rfl, Nat.le_of_ble_eq_true rfl⟩) hP hS hA (fun r_5 H locs wr_5 hP hS => ?_)
      subst wr_5
      refine lv_bi_ne (tgt := 31) hx hb dX11_body_26 (by decide) (fun c_6 => ?_) (fun c_6 => ?_)
      · obtain ⟨tn3, tn3a, tn3b, tn3e⟩ := of_rng 0 4 rfl rfl c_6
        subst tn3e
        refine lv_aload_n hx hb dX11_body_31 rfl (lv_at hl 0 rfl) ?_
        refine va_get (D := D) (ci := 11) (v := .ref (a 11)) (C := RX11) (T := TX11) (N := 13) hx hb hts inT_X11 hown hK.1 hP 0 rfl rfl 10 (by decide) (hts _ k_493) (fun _ h9 => h9) rfl dX11_body_32 ?_
        refine lv_iload_n hx hb dX11_body_35 rfl (lv_at hl 1 rfl) ?_
        refine lv_iload_n hx hb dX11_body_36 rfl (lv_at hl 2 rfl) ?_
        refine eWv (wr := [(a 0, .inr (11, [.ref (a 1), .ref (a 2), .ref (a 3), .ref (a 4), .ref (a 5), .ref (a 6), .ref (a 7), .ref (a 8), .ref (a 9), .ref (a 10), .ref (a 11), .ref (a 12), .int ap]))]) (va_runV (As := [.int (nI tn1), .int (nI tn2)]) (rest := []) ⟨hx, hb, hml, hown, hts⟩ (c_X6_seek l D cI cB cZ cJ tx a bc br bm ba bp pc_ tn1 tn2 (lf_X11_body_7 a ap bc br bm ba bp pc_ (nI tn1) (nI tn2) (nI tn3) c_2 tn1 tn1a tn1b rfl c_4 tn2 tn2a tn2b rfl c_6 tn3 tn3a tn3b rfl) (lf_X11_body_8 a ap bc br bm ba bp pc_ (nI tn1) (nI tn2) (nI tn3) c_2 tn1 tn1a tn1b rfl c_4 tn2 tn2a tn2b rfl c_6 tn3 tn3a tn3b rfl) (lf_X11_body_9 a ap bc br bm ba bp pc_ (nI tn1) (nI tn2) (nI tn3) c_2 tn1 tn1a tn1b rfl c_4 tn2 tn2a tn2b rfl c_6 tn3 tn3a tn3b rfl) (lf_X11_body_10 a ap bc br bm ba bp pc_ (nI tn1) (nI tn2) (nI tn3) c_2 tn1 tn1a tn1b rfl c_4 tn2 tn2a tn2b rfl c_6 tn3 tn3a tn3b rfl) H.size) (zV hts k_1177 v_X6_seek ⟨Nat.le_of_ble_eq_true rfl, Nat.le_of_ble_eq_true rfl⟩) (pV (pxS hK hP hD [1, 2] (by decide) rfl) hK hP 1 rfl rfl) rfl rfl hl.1 rfl (lv_room (Nat.le_of_ble_eq_true rfl)) dX11_body_37 ⟨Nat.le_of_ble_eq_true rfl, Nat.le_of_ble_eq_true rfl⟩) hP hD hS hA [1, 2] [0] rfl rfl (by decide) (by decide) (fun u_12 H locs wr_11 hP hD hS => ?_)
        obtain ⟨bc_12, br_12, bm_12, ba_12, bp_12⟩ := u_12
        have hP : va_P D vwCl [(a 0, .inr (11, [.ref (a 1), .ref (a 2), .ref (a 3), .ref (a 4), .ref (a 5), .ref (a 6), .ref (a 7), .ref (a 8), .ref (a 9), .ref (a 10), .ref (a 11), .ref (a 12), .int ap])), (a 11, .inr (6, [.ref (a 47), .int bc_12, .int br_12, .int bm_12, .int ba_12, .int bp_12])), (a 47, .inl (cI, 72, .inl pc_))] H := hP
        have hD : va_D A [(a 0, .inr (11, [.ref (a 1), .ref (a 2), .ref (a 3), .ref (a 4), .ref (a 5), .ref (a 6), .ref (a 7), .ref (a 8), .ref (a 9), .ref (a 10), .ref (a 11), .ref (a 12), .int ap])), (a 11, .inr (6, [.ref (a 47), .int bc_12, .int br_12, .int bm_12, .int ba_12, .int bp_12])), (a 47, .inl (cI, 72, .inl pc_))] := hD
        refine lv_iload_n hx hb dX11_body_40 rfl (lv_at hl 3 rfl) ?_
        by_cases c_13 : tn3 = 0
        · subst c_13
          refine lv_tableIn (off := 31) (tgt := 72) hx hb dX11_body_41 (by decide) (by decide) rfl (by decide) ?_
          refine lv_aload_n hx hb dX11_body_72 rfl (lv_at hl 0 rfl) ?_
          refine va_get (D := D) (ci := 11) (v := .ref (a 11)) (C := RX11) (T := TX11) (N := 13) hx hb hts inT_X11 hown hK.1 hP 0 rfl rfl 10 (by decide) (hts _ k_493) (fun _ h9 => h9) rfl dX11_body_73 ?_
          refine va_getN (D := D) (ci := 6) (v := .int bc_12) (C := RX6) (T := TX6) (N := 6) hx hb hts inT_X6 hown hK.1 hP 1 rfl rfl 1 (by decide) (va_Nw.use rfl (hK.2.2.1 _ n_443)) (fun _ h9 => h9) rfl dX11_body_76 ?_
          exact W.iret (v := bc_12) hx hb hr (fun tt9 ht hW => ⟨⟨(bc_12 : Int32), ((bc_12 : Int32), (br_12 : Int32), (bm_12 : Int32), (ba_12 : Int32), (bp_12 : Int32)), rfl, trivial, ⟨by rw [ht]; exact hP, hD⟩⟩, hS.F ht⟩) hS.2.2 dX11_body_79 hlocks
        by_cases c_14 : tn3 = 1
        · subst c_14
          refine lv_tableIn (off := 39) (tgt := 80) hx hb dX11_body_41 (by decide) (by decide) rfl (by decide) ?_
          refine lv_aload_n hx hb dX11_body_80 rfl (lv_at hl 0 rfl) ?_
          refine va_get (D := D) (ci := 11) (v := .ref (a 11)) (C := RX11) (T := TX11) (N := 13) hx hb hts inT_X11 hown hK.1 hP 0 rfl rfl 10 (by decide) (hts _ k_493) (fun _ h9 => h9) rfl dX11_body_81 ?_
          refine va_getN (D := D) (ci := 6) (v := .int br_12) (C := RX6) (T := TX6) (N := 6) hx hb hts inT_X6 hown hK.1 hP 1 rfl rfl 2 (by decide) (va_Nw.use rfl (hK.2.2.1 _ n_445)) (fun _ h9 => h9) rfl dX11_body_84 ?_
          exact W.iret (v := br_12) hx hb hr (fun tt9 ht hW => ⟨⟨(br_12 : Int32), ((bc_12 : Int32), (br_12 : Int32), (bm_12 : Int32), (ba_12 : Int32), (bp_12 : Int32)), rfl, trivial, ⟨by rw [ht]; exact hP, hD⟩⟩, hS.F ht⟩) hS.2.2 dX11_body_87 hlocks
        by_cases c_15 : tn3 = 2
        · subst c_15
          refine lv_tableIn (off := 47) (tgt := 88) hx hb dX11_body_41 (by decide) (by decide) rfl (by decide) ?_
          refine lv_aload_n hx hb dX11_body_88 rfl (lv_at hl 0 rfl) ?_
          refine va_get (D := D) (ci := 11) (v := .ref (a 11)) (C := RX11) (T := TX11) (N := 13) hx hb hts inT_X11 hown hK.1 hP 0 rfl rfl 10 (by decide) (hts _ k_493) (fun _ h9 => h9) rfl dX11_body_89 ?_
          refine va_getN (D := D) (ci := 6) (v := .int bm_12) (C := RX6) (T := TX6) (N := 6) hx hb hts inT_X6 hown hK.1 hP 1 rfl rfl 3 (by decide) (va_Nw.use rfl (hK.2.2.1 _ n_447)) (fun _ h9 => h9) rfl dX11_body_92 ?_
          exact W.iret (v := bm_12) hx hb hr (fun tt9 ht hW => ⟨⟨(bm_12 : Int32), ((bc_12 : Int32), (br_12 : Int32), (bm_12 : Int32), (ba_12 : Int32), (bp_12 : Int32)), rfl, trivial, ⟨by rw [ht]; exact hP, hD⟩⟩, hS.F ht⟩) hS.2.2 dX11_body_95 hlocks
        by_cases c_16 : tn3 = 3
        · subst c_16
          refine lv_tableIn (off := 55) (tgt := 96) hx hb dX11_body_41 (by decide) (by decide) rfl (by decide) ?_
          refine lv_aload_n hx hb dX11_body_96 rfl (lv_at hl 0 rfl) ?_
          refine va_get (D := D) (ci := 11) (v := .ref (a 11)) (C := RX11) (T := TX11) (N := 13) hx hb hts inT_X11 hown hK.1 hP 0 rfl rfl 10 (by decide) (hts _ k_493) (fun _ h9 => h9) rfl dX11_body_97 ?_
          refine va_getN (D := D) (ci := 6) (v := .int ba_12) (C := RX6) (T := TX6) (N := 6) hx hb hts inT_X6 hown hK.1 hP 1 rfl rfl 4 (by decide) (va_Nw.use rfl (hK.2.2.1 _ n_449)) (fun _ h9 => h9) rfl dX11_body_100 ?_
          exact W.iret (v := ba_12) hx hb hr (fun tt9 ht hW => ⟨⟨(ba_12 : Int32), ((bc_12 : Int32), (br_12 : Int32), (bm_12 : Int32), (ba_12 : Int32), (bp_12 : Int32)), rfl, trivial, ⟨by rw [ht]; exact hP, hD⟩⟩, hS.F ht⟩) hS.2.2 dX11_body_103 hlocks
        refine lv_tableOut (tgt := 104) hx hb dX11_body_41 (lf_X11_body_17 a ap bc br bm ba bp pc_ (nI tn1) (nI tn2) (nI tn3) c_2 tn1 tn1a tn1b rfl c_4 tn2 tn2a tn2b rfl c_6 tn3 tn3a tn3b rfl bc_12 br_12 bm_12 ba_12 bp_12 c_13 c_14 c_15 c_16) (by decide) ?_
        refine lv_aload_n hx hb dX11_body_104 rfl (lv_at hl 0 rfl) ?_
        refine va_get (D := D) (ci := 11) (v := .ref (a 11)) (C := RX11) (T := TX11) (N := 13) hx hb hts inT_X11 hown hK.1 hP 0 rfl rfl 10 (by decide) (hts _ k_493) (fun _ h9 => h9) rfl dX11_body_105 ?_
        refine va_getN (D := D) (ci := 6) (v := .int bp_12) (C := RX6) (T := TX6) (N := 6) hx hb hts inT_X6 hown hK.1 hP 1 rfl rfl 5 (by decide) (va_Nw.use rfl (hK.2.2.1 _ n_451)) (fun _ h9 => h9) rfl dX11_body_108 ?_
        exact W.iret (v := bp_12) hx hb hr (fun tt9 ht hW => ⟨⟨(bp_12 : Int32), ((bc_12 : Int32), (br_12 : Int32), (bm_12 : Int32), (ba_12 : Int32), (bp_12 : Int32)), rfl, trivial, ⟨by rw [ht]; exact hP, hD⟩⟩, hS.F ht⟩) hS.2.2 dX11_body_111 hlocks
      · refine lv_iconst (v := (-1)) hx hb dX11_body_29 (by decide) ?_
        exact W.iret (v := (-1)) hx hb hr (fun tt9 ht hW => ⟨⟨((-1) : Int32), ((bc : Int32), (br : Int32), (bm : Int32), (ba : Int32), (bp : Int32)), rfl, trivial, ⟨by rw [ht]; exact hP, hD⟩⟩, hS.F ht⟩) hS.2.2 dX11_body_30 hlocks

theorem lf_X11_marked_1 (a : Nat → Nat) (ap : Int32) (sn : Nat) (sk : Nat) (scu : Int32) (sch : Int32) (dm : Nat) (d0 : Nat → Int32) (d1 : Nat → Int32) (d2 : Nat → Int32) (n1 : Int32) (n2 : Int32) (n3 : Int32) (n4 : Int32) (n5 : Int32) (hsn : sn ≤ 24) (hsk : sk ≤ 8) (hdm : dm ≤ 4) : sn ≤ 24 := by
  first | assumption | omega | decide
theorem lf_X11_marked_2 (a : Nat → Nat) (ap : Int32) (sn : Nat) (sk : Nat) (scu : Int32) (sch : Int32) (dm : Nat) (d0 : Nat → Int32) (d1 : Nat → Int32) (d2 : Nat → Int32) (n1 : Int32) (n2 : Int32) (n3 : Int32) (n4 : Int32) (n5 : Int32) (hsn : sn ≤ 24) (hsk : sk ≤ 8) (hdm : dm ≤ 4) : sk ≤ 8 := by
  first | assumption | omega | decide
theorem lf_X11_marked_4 (a : Nat → Nat) (ap : Int32) (sn : Nat) (sk : Nat) (scu : Int32) (sch : Int32) (dm : Nat) (d0 : Nat → Int32) (d1 : Nat → Int32) (d2 : Nat → Int32) (n1 : Int32) (n2 : Int32) (n3 : Int32) (n4 : Int32) (n5 : Int32) (hsn : sn ≤ 24) (hsk : sk ≤ 8) (hdm : dm ≤ 4) (ff3 : Nat) (ss3 : Nat) (dd3 : Nat) (hff3 : ff3 < sn) (hss3 : ss3 < sk) (hdd3 : dd3 < 2) : ¬ nI ((ff3 * 8 + ss3) * 2 + dd3) < 0 := by
  first | exact nI_pos (by omega) | exact nI_pos' (by omega)
theorem lf_X11_marked_7 (a : Nat → Nat) (ap : Int32) (sn : Nat) (sk : Nat) (scu : Int32) (sch : Int32) (dm : Nat) (d0 : Nat → Int32) (d1 : Nat → Int32) (d2 : Nat → Int32) (n1 : Int32) (n2 : Int32) (n3 : Int32) (n4 : Int32) (n5 : Int32) (hsn : sn ≤ 24) (hsk : sk ≤ 8) (hdm : dm ≤ 4) (ff3 : Nat) (ss3 : Nat) (dd3 : Nat) (hff3 : ff3 < sn) (hss3 : ss3 < sk) (hdd3 : dd3 < 2) (c_6 : (0 : Int32) ≤ n5 ∧ n5 ≤ 1) (tn5 : Nat) (tn5a : 0 ≤ tn5) (tn5b : tn5 ≤ 1) (tn5e : n5 = nI tn5) : dm ≤ 4 := by
  first | assumption | omega | decide
theorem lf_X11_marked_8 (a : Nat → Nat) (ap : Int32) (sn : Nat) (sk : Nat) (scu : Int32) (sch : Int32) (dm : Nat) (d0 : Nat → Int32) (d1 : Nat → Int32) (d2 : Nat → Int32) (n1 : Int32) (n2 : Int32) (n3 : Int32) (n4 : Int32) (n5 : Int32) (hsn : sn ≤ 24) (hsk : sk ≤ 8) (hdm : dm ≤ 4) (ff3 : Nat) (ss3 : Nat) (dd3 : Nat) (hff3 : ff3 < sn) (hss3 : ss3 < sk) (hdd3 : dd3 < 2) (c_6 : (0 : Int32) ≤ n5 ∧ n5 ≤ 1) (tn5 : Nat) (tn5a : 0 ≤ tn5) (tn5b : tn5 ≤ 1) (tn5e : n5 = nI tn5) : ((ff3 * 8 + ss3) * 2 + dd3) < 384 := by
  first | assumption | omega | decide
theorem lf_X11_marked_10 (a : Nat → Nat) (ap : Int32) (sn : Nat) (sk : Nat) (scu : Int32) (sch : Int32) (dm : Nat) (d0 : Nat → Int32) (d1 : Nat → Int32) (d2 : Nat → Int32) (n1 : Int32) (n2 : Int32) (n3 : Int32) (n4 : Int32) (n5 : Int32) (hsn : sn ≤ 24) (hsk : sk ≤ 8) (hdm : dm ≤ 4) (ff3 : Nat) (ss3 : Nat) (dd3 : Nat) (hff3 : ff3 < sn) (hss3 : ss3 < sk) (hdd3 : dd3 < 2) (c_6 : (0 : Int32) ≤ n5 ∧ n5 ≤ 1) (tn5 : Nat) (tn5a : 0 ≤ tn5) (tn5b : tn5 ≤ 1) (tn5e : n5 = nI tn5) (ff9 : Nat) (hff9 : ff9 < dm) : ff9 < 4 := by
  first | assumption | omega | decide
theorem lf_X11_marked_11 (a : Nat → Nat) (ap : Int32) (sn : Nat) (sk : Nat) (scu : Int32) (sch : Int32) (dm : Nat) (d0 : Nat → Int32) (d1 : Nat → Int32) (d2 : Nat → Int32) (n1 : Int32) (n2 : Int32) (n3 : Int32) (n4 : Int32) (n5 : Int32) (hsn : sn ≤ 24) (hsk : sk ≤ 8) (hdm : dm ≤ 4) (ff3 : Nat) (ss3 : Nat) (dd3 : Nat) (hff3 : ff3 < sn) (hss3 : ss3 < sk) (hdd3 : dd3 < 2) (c_6 : (0 : Int32) ≤ n5 ∧ n5 ≤ 1) (tn5 : Nat) (tn5a : 0 ≤ tn5) (tn5b : tn5 ≤ 1) (tn5e : n5 = nI tn5) (ff9 : Nat) (hff9 : ff9 < dm) : ((ff3 * 8 + ss3) * 2 + dd3) < 384 := by
  first | assumption | omega | decide
set_option maxHeartbeats 4000000 in
set_option maxRecDepth 100000 in
theorem c_X11_marked (l : Launch) (D : va_G) (cI cB cZ cJ : ClassId) (tx : List (ClassId × FieldType)) (a : Nat → Nat) (ap : Int32) (sn : Nat) (sk : Nat) (scu : Int32) (sch : Int32) (dm : Nat) (d0 : Nat → Int32) (d1 : Nat → Int32) (d2 : Nat → Int32) (n1 : Int32) (n2 : Int32) (n3 : Int32) (n4 : Int32) (n5 : Int32) (hsn : sn ≤ 24) (hsk : sk ≤ 8) (hdm : dm ≤ 4) : RdI l D cI cB cZ cJ tx yX11_marked cX11_marked 7 (some .int) 3 [.ref (a 0), .int n1, .int n2, .int n3, .int n4, .int n5] [(a 0, .inr (11, [.ref (a 1), .ref (a 2), .ref (a 3), .ref (a 4), .ref (a 5), .ref (a 6), .ref (a 7), .ref (a 8), .ref (a 9), .ref (a 10), .ref (a 11), .ref (a 12), .int ap])), (a 5, .inr (4, [.ref (a 18), .ref (a 19), .ref (a 20), .ref (a 21), .ref (a 22), .ref (a 23), .ref (a 24), .int (nI sn), .int (nI sk), .int scu, .int sch])), (a 6, .inr (0, [.ref (a 5), .ref (a 25), .ref (a 26), .ref (a 27), .ref (a 28), .ref (a 29), .int (nI dm)])), (a 25, .inl (cI, 1536, .inl d0)), (a 26, .inl (cI, 1536, .inl d1)), (a 27, .inl (cZ, 1536, .inl d2))] (fun r => True) := by
  refine rdi_of2 (by decide) (Nat.le_of_ble_eq_true rfl) ?_
  intro p e s m below meth c A ls H locs hC hK hP hD hA hS hl
  obtain ⟨hx, hb, hr, hml, hown, hts, hlocks, hin⟩ := hC
  have hown : s.vm.findClass RX11 = some m.cls := hown
  have hl : lv_has ls 7 [(0, .ref (a 0)), (1, .int n1), (2, .int n2), (3, .int n3), (4, .int n4), (5, .int n5)] := hl
  refine lv_aload_n hx hb dX11_marked_0 rfl (lv_at hl 0 rfl) ?_
  refine va_get (D := D) (ci := 11) (v := .ref (a 5)) (C := RX11) (T := TX11) (N := 13) hx hb hts inT_X11 hown hK.1 hP 0 rfl rfl 4 (by decide) (hts _ k_487) (fun _ h9 => h9) rfl dX11_marked_1 ?_
  refine lv_iload_n hx hb dX11_marked_4 rfl (lv_at hl 2 rfl) ?_
  refine lv_iload_n hx hb dX11_marked_5 rfl (lv_at hl 3 rfl) ?_
  refine lv_iload hx hb dX11_marked_6 (lv_at hl 4 rfl) ?_
  refine eRi (va_runV (As := [.int n2, .int n3, .int n4]) (rest := []) ⟨hx, hb, hml, hown, hts⟩ (c_X4_rivetAt_a l D cI cB cZ cJ tx a sn sk scu sch n2 n3 n4 (lf_X11_marked_1 a ap sn sk scu sch dm d0 d1 d2 n1 n2 n3 n4 n5 hsn hsk hdm) (lf_X11_marked_2 a ap sn sk scu sch dm d0 d1 d2 n1 n2 n3 n4 n5 hsn hsk hdm) H.size) (zV hts k_850 v_X4_rivetAt ⟨Nat.le_of_ble_eq_true rfl, Nat.le_of_ble_eq_true rfl⟩) (pV (px1 hK hP 1 rfl) hK hP 1 rfl rfl) rfl rfl hl.1 rfl (lv_room (Nat.le_of_ble_eq_true rfl)) dX11_marked_8 ⟨Nat.le_of_ble_eq_true rfl, Nat.le_of_ble_eq_true rfl⟩) hP hS hA (fun r_3 H locs wr_3 hP hS => ?_)
  rcases wr_3 with rfl | ⟨ff3, ss3, dd3, hff3, hss3, hdd3, rfl, rfl, rfl, rfl⟩
  · refine lv_istore (lv' := [(6, .int (-1)), (0, .ref (a 0)), (1, .int n1), (2, .int n2), (3, .int n3), (4, .int n4), (5, .int n5)]) hx hb dX11_marked_11 hl (by decide) rfl (fun ls hl => ?_)
    refine lv_iload hx hb dX11_marked_13 (lv_at hl 0 rfl) ?_
    refine lv_if_lt (tgt := 41) hx hb dX11_marked_15 (by decide) (fun _ => ?_) (fun c => absurd c (by decide))
    refine lv_sipush (v := (-10000)) hx hb dX11_marked_41 (by decide) ?_
    exact W.iret (v := (-10000)) hx hb hr (fun tt9 ht hW => ⟨⟨((-10000) : Int32), (), rfl, trivial, trivial⟩, hS.F ht⟩) hS.2.2 dX11_marked_44 hlocks
  · refine lv_istore (lv' := [(6, .int (nI ((ff3 * 8 + ss3) * 2 + dd3))), (0, .ref (a 0)), (1, .int n1), (2, .int (nI ff3)), (3, .int (nI ss3)), (4, .int (nI dd3)), (5, .int n5)]) hx hb dX11_marked_11 hl (by decide) rfl (fun ls hl => ?_)
    refine lv_iload hx hb dX11_marked_13 (lv_at hl 0 rfl) ?_
    refine lv_if_lt (tgt := 41) hx hb dX11_marked_15 (by decide) (fun c => absurd c (lf_X11_marked_4 a ap sn sk scu sch dm d0 d1 d2 n1 (nI ff3) (nI ss3) (nI dd3) n5 hsn hsk hdm ff3 ss3 dd3 hff3 hss3 hdd3)) (fun _ => ?_)
    refine lv_iload hx hb dX11_marked_18 (lv_at hl 6 rfl) ?_
    refine lv_iconst (v := 0) hx hb dX11_marked_20 (by decide) ?_
    refine lv_iconst (v := 1) hx hb dX11_marked_21 (by decide) ?_
    refine eRi (va_runS (As := [.int n5, .int 0, .int 1]) (rest := []) ⟨hx, hb, hml, hown, hts⟩ (c_X11_within l D cI cB cZ cJ tx n5 0 1 H.size) (zS hts k_527 v_X11_within ⟨Nat.le_of_ble_eq_true rfl, Nat.le_of_ble_eq_true rfl⟩) (px0 hK) rfl rfl hl.1 rfl (lv_room (Nat.le_of_ble_eq_true rfl)) dX11_marked_22 ⟨Nat.le_of_ble_eq_true rfl, Nat.le_of_ble_eq_true rfl⟩) hP hS hA (fun r_5 H locs wr_5 hP hS => ?_)
    subst wr_5
    refine lv_bi_eq (tgt := 41) hx hb dX11_marked_25 (by decide) (fun c_6 => ?_) (fun c_6 => ?_)
    · refine lv_sipush (v := (-10000)) hx hb dX11_marked_41 (by decide) ?_
      exact W.iret (v := (-10000)) hx hb hr (fun tt9 ht hW => ⟨⟨((-10000) : Int32), (), rfl, trivial, trivial⟩, hS.F ht⟩) hS.2.2 dX11_marked_44 hlocks
    · obtain ⟨tn5, tn5a, tn5b, tn5e⟩ := of_rng 0 1 rfl rfl c_6
      subst tn5e
      refine lv_aload_n hx hb dX11_marked_28 rfl (lv_at hl 1 rfl) ?_
      refine va_get (D := D) (ci := 11) (v := .ref (a 6)) (C := RX11) (T := TX11) (N := 13) hx hb hts inT_X11 hown hK.1 hP 0 rfl rfl 5 (by decide) (hts _ k_488) (fun _ h9 => h9) rfl dX11_marked_29 ?_
      refine lv_iload_n hx hb dX11_marked_32 rfl (lv_at hl 2 rfl) ?_
      refine lv_iload hx hb dX11_marked_33 (lv_at hl 0 rfl) ?_
      refine eRi (va_runV (As := [.int n1, .int (nI ((ff3 * 8 + ss3) * 2 + dd3))]) (rest := []) ⟨hx, hb, hml, hown, hts⟩ (c_X0_hasMark_a l D cI cB cZ cJ tx a dm d2 ((ff3 * 8 + ss3) * 2 + dd3) n1 (lf_X11_marked_7 a ap sn sk scu sch dm d0 d1 d2 n1 (nI ff3) (nI ss3) (nI dd3) (nI tn5) hsn hsk hdm ff3 ss3 dd3 hff3 hss3 hdd3 c_6 tn5 tn5a tn5b rfl) (lf_X11_marked_8 a ap sn sk scu sch dm d0 d1 d2 n1 (nI ff3) (nI ss3) (nI dd3) (nI tn5) hsn hsk hdm ff3 ss3 dd3 hff3 hss3 hdd3 c_6 tn5 tn5a tn5b rfl) H.size) (zV hts k_933 v_X0_hasMark ⟨Nat.le_of_ble_eq_true rfl, Nat.le_of_ble_eq_true rfl⟩) (pV (pxS hK hP hD [2, 5] (by decide) rfl) hK hP 2 rfl rfl) rfl rfl hl.1 rfl (lv_room (Nat.le_of_ble_eq_true rfl)) dX11_marked_35 ⟨Nat.le_of_ble_eq_true rfl, Nat.le_of_ble_eq_true rfl⟩) hP hS hA (fun r_9 H locs wr_9 hP hS => ?_)
      rcases wr_9 with rfl | ⟨ff9, hff9, rfl, rfl⟩
      · refine lv_if_ne (tgt := 45) hx hb dX11_marked_38 (by decide) (fun c => absurd c (by decide)) (fun _ => ?_)
        refine lv_sipush (v := (-10000)) hx hb dX11_marked_41 (by decide) ?_
        exact W.iret (v := (-10000)) hx hb hr (fun tt9 ht hW => ⟨⟨((-10000) : Int32), (), rfl, trivial, trivial⟩, hS.F ht⟩) hS.2.2 dX11_marked_44 hlocks
      · refine lv_if_ne (tgt := 45) hx hb dX11_marked_38 (by decide) (fun _ => ?_) (fun c => absurd c (by decide))
        refine lv_aload_n hx hb dX11_marked_45 rfl (lv_at hl 1 rfl) ?_
        refine va_get (D := D) (ci := 11) (v := .ref (a 6)) (C := RX11) (T := TX11) (N := 13) hx hb hts inT_X11 hown hK.1 hP 0 rfl rfl 5 (by decide) (hts _ k_488) (fun _ h9 => h9) rfl dX11_marked_46 ?_
        refine lv_iload_n hx hb dX11_marked_49 rfl (lv_at hl 2 rfl) ?_
        refine lv_iload hx hb dX11_marked_50 (lv_at hl 0 rfl) ?_
        refine lv_iload hx hb dX11_marked_52 (lv_at hl 6 rfl) ?_
        refine eRi (va_runV (As := [.int (nI ff9), .int (nI ((ff3 * 8 + ss3) * 2 + dd3)), .int (nI tn5)]) (rest := []) ⟨hx, hb, hml, hown, hts⟩ (c_X0_at l D cI cB cZ cJ tx a dm d0 d1 ff9 ((ff3 * 8 + ss3) * 2 + dd3) (nI tn5) (lf_X11_marked_10 a ap sn sk scu sch dm d0 d1 d2 (nI ff9) (nI ff3) (nI ss3) (nI dd3) (nI tn5) hsn hsk hdm ff3 ss3 dd3 hff3 hss3 hdd3 c_6 tn5 tn5a tn5b rfl ff9 hff9) (lf_X11_marked_11 a ap sn sk scu sch dm d0 d1 d2 (nI ff9) (nI ff3) (nI ss3) (nI dd3) (nI tn5) hsn hsk hdm ff3 ss3 dd3 hff3 hss3 hdd3 c_6 tn5 tn5a tn5b rfl ff9 hff9) H.size) (zV hts k_934 v_X0_at ⟨Nat.le_of_ble_eq_true rfl, Nat.le_of_ble_eq_true rfl⟩) (pV (pxS hK hP hD [2, 3, 4] (by decide) rfl) hK hP 2 rfl rfl) rfl rfl hl.1 rfl (lv_room (Nat.le_of_ble_eq_true rfl)) dX11_marked_54 ⟨Nat.le_of_ble_eq_true rfl, Nat.le_of_ble_eq_true rfl⟩) hP hS hA (fun r_12 H locs wr_12 hP hS => ?_)
        exact W.iret (v := r_12) hx hb hr (fun tt9 ht hW => ⟨⟨(r_12 : Int32), (), rfl, trivial, trivial⟩, hS.F ht⟩) hS.2.2 dX11_marked_57 hlocks

theorem lf_X11_slipped_1 (a : Nat → Nat) (ap : Int32) (sn : Nat) (sk : Nat) (scu : Int32) (sch : Int32) (dm : Nat) (d0 : Nat → Int32) (d1 : Nat → Int32) (d2 : Nat → Int32) (d3 : Nat → Int32) (n1 : Int32) (n2 : Int32) (n3 : Int32) (n4 : Int32) (n5 : Int32) (n6 : Int32) (hsn : sn ≤ 24) (hsk : sk ≤ 8) (hdm : dm ≤ 4) : sn ≤ 24 := by
  first | assumption | omega | decide
theorem lf_X11_slipped_2 (a : Nat → Nat) (ap : Int32) (sn : Nat) (sk : Nat) (scu : Int32) (sch : Int32) (dm : Nat) (d0 : Nat → Int32) (d1 : Nat → Int32) (d2 : Nat → Int32) (d3 : Nat → Int32) (n1 : Int32) (n2 : Int32) (n3 : Int32) (n4 : Int32) (n5 : Int32) (n6 : Int32) (hsn : sn ≤ 24) (hsk : sk ≤ 8) (hdm : dm ≤ 4) : sk ≤ 8 := by
  first | assumption | omega | decide
theorem lf_X11_slipped_4 (a : Nat → Nat) (ap : Int32) (sn : Nat) (sk : Nat) (scu : Int32) (sch : Int32) (dm : Nat) (d0 : Nat → Int32) (d1 : Nat → Int32) (d2 : Nat → Int32) (d3 : Nat → Int32) (n1 : Int32) (n2 : Int32) (n3 : Int32) (n4 : Int32) (n5 : Int32) (n6 : Int32) (hsn : sn ≤ 24) (hsk : sk ≤ 8) (hdm : dm ≤ 4) (ff3 : Nat) (ss3 : Nat) (dd3 : Nat) (hff3 : ff3 < sn) (hss3 : ss3 < sk) (hdd3 : dd3 < 2) : ¬ nI ((ff3 * 8 + ss3) * 2 + dd3) < 0 := by
  first | exact nI_pos (by omega) | exact nI_pos' (by omega)
theorem lf_X11_slipped_8 (a : Nat → Nat) (ap : Int32) (sn : Nat) (sk : Nat) (scu : Int32) (sch : Int32) (dm : Nat) (d0 : Nat → Int32) (d1 : Nat → Int32) (d2 : Nat → Int32) (d3 : Nat → Int32) (n1 : Int32) (n2 : Int32) (n3 : Int32) (n4 : Int32) (n5 : Int32) (n6 : Int32) (hsn : sn ≤ 24) (hsk : sk ≤ 8) (hdm : dm ≤ 4) (ff3 : Nat) (ss3 : Nat) (dd3 : Nat) (hff3 : ff3 < sn) (hss3 : ss3 < sk) (hdd3 : dd3 < 2) (c_5 : ¬ n1 = n2) (c_6 : ¬ n1 = n3) (c_7 : ¬ n2 = n3) : dm ≤ 4 := by
  first | assumption | omega | decide
theorem lf_X11_slipped_9 (a : Nat → Nat) (ap : Int32) (sn : Nat) (sk : Nat) (scu : Int32) (sch : Int32) (dm : Nat) (d0 : Nat → Int32) (d1 : Nat → Int32) (d2 : Nat → Int32) (d3 : Nat → Int32) (n1 : Int32) (n2 : Int32) (n3 : Int32) (n4 : Int32) (n5 : Int32) (n6 : Int32) (hsn : sn ≤ 24) (hsk : sk ≤ 8) (hdm : dm ≤ 4) (ff3 : Nat) (ss3 : Nat) (dd3 : Nat) (hff3 : ff3 < sn) (hss3 : ss3 < sk) (hdd3 : dd3 < 2) (c_5 : ¬ n1 = n2) (c_6 : ¬ n1 = n3) (c_7 : ¬ n2 = n3) : ((ff3 * 8 + ss3) * 2 + dd3) < 384 := by
  first | assumption | omega | decide
theorem lf_X11_slipped_11 (a : Nat → Nat) (ap : Int32) (sn : Nat) (sk : Nat) (scu : Int32) (sch : Int32) (dm : Nat) (d0 : Nat → Int32) (d1 : Nat → Int32) (d2 : Nat → Int32) (d3 : Nat → Int32) (n1 : Int32) (n2 : Int32) (n3 : Int32) (n4 : Int32) (n5 : Int32) (n6 : Int32) (hsn : sn ≤ 24) (hsk : sk ≤ 8) (hdm : dm ≤ 4) (ff3 : Nat) (ss3 : Nat) (dd3 : Nat) (hff3 : ff3 < sn) (hss3 : ss3 < sk) (hdd3 : dd3 < 2) (c_5 : ¬ n1 = n2) (c_6 : ¬ n1 = n3) (c_7 : ¬ n2 = n3) (ff10 : Nat) (hff10 : ff10 < dm) : dm ≤ 4 := by
  first | assumption | omega | decide
theorem lf_X11_slipped_12 (a : Nat → Nat) (ap : Int32) (sn : Nat) (sk : Nat) (scu : Int32) (sch : Int32) (dm : Nat) (d0 : Nat → Int32) (d1 : Nat → Int32) (d2 : Nat → Int32) (d3 : Nat → Int32) (n1 : Int32) (n2 : Int32) (n3 : Int32) (n4 : Int32) (n5 : Int32) (n6 : Int32) (hsn : sn ≤ 24) (hsk : sk ≤ 8) (hdm : dm ≤ 4) (ff3 : Nat) (ss3 : Nat) (dd3 : Nat) (hff3 : ff3 < sn) (hss3 : ss3 < sk) (hdd3 : dd3 < 2) (c_5 : ¬ n1 = n2) (c_6 : ¬ n1 = n3) (c_7 : ¬ n2 = n3) (ff10 : Nat) (hff10 : ff10 < dm) : ((ff3 * 8 + ss3) * 2 + dd3) < 384 := by
  first | assumption | omega | decide
theorem lf_X11_slipped_14 (a : Nat → Nat) (ap : Int32) (sn : Nat) (sk : Nat) (scu : Int32) (sch : Int32) (dm : Nat) (d0 : Nat → Int32) (d1 : Nat → Int32) (d2 : Nat → Int32) (d3 : Nat → Int32) (n1 : Int32) (n2 : Int32) (n3 : Int32) (n4 : Int32) (n5 : Int32) (n6 : Int32) (hsn : sn ≤ 24) (hsk : sk ≤ 8) (hdm : dm ≤ 4) (ff3 : Nat) (ss3 : Nat) (dd3 : Nat) (hff3 : ff3 < sn) (hss3 : ss3 < sk) (hdd3 : dd3 < 2) (c_5 : ¬ n1 = n2) (c_6 : ¬ n1 = n3) (c_7 : ¬ n2 = n3) (ff10 : Nat) (hff10 : ff10 < dm) (ff13 : Nat) (hff13 : ff13 < dm) : dm ≤ 4 := by
  first | assumption | omega | decide
theorem lf_X11_slipped_15 (a : Nat → Nat) (ap : Int32) (sn : Nat) (sk : Nat) (scu : Int32) (sch : Int32) (dm : Nat) (d0 : Nat → Int32) (d1 : Nat → Int32) (d2 : Nat → Int32) (d3 : Nat → Int32) (n1 : Int32) (n2 : Int32) (n3 : Int32) (n4 : Int32) (n5 : Int32) (n6 : Int32) (hsn : sn ≤ 24) (hsk : sk ≤ 8) (hdm : dm ≤ 4) (ff3 : Nat) (ss3 : Nat) (dd3 : Nat) (hff3 : ff3 < sn) (hss3 : ss3 < sk) (hdd3 : dd3 < 2) (c_5 : ¬ n1 = n2) (c_6 : ¬ n1 = n3) (c_7 : ¬ n2 = n3) (ff10 : Nat) (hff10 : ff10 < dm) (ff13 : Nat) (hff13 : ff13 < dm) : ((ff3 * 8 + ss3) * 2 + dd3) < 384 := by
  first | assumption | omega | decide
theorem lf_X11_slipped_17 (a : Nat → Nat) (ap : Int32) (sn : Nat) (sk : Nat) (scu : Int32) (sch : Int32) (dm : Nat) (d0 : Nat → Int32) (d1 : Nat → Int32) (d2 : Nat → Int32) (d3 : Nat → Int32) (n1 : Int32) (n2 : Int32) (n3 : Int32) (n4 : Int32) (n5 : Int32) (n6 : Int32) (hsn : sn ≤ 24) (hsk : sk ≤ 8) (hdm : dm ≤ 4) (ff3 : Nat) (ss3 : Nat) (dd3 : Nat) (hff3 : ff3 < sn) (hss3 : ss3 < sk) (hdd3 : dd3 < 2) (c_5 : ¬ n1 = n2) (c_6 : ¬ n1 = n3) (c_7 : ¬ n2 = n3) (ff10 : Nat) (hff10 : ff10 < dm) (ff13 : Nat) (hff13 : ff13 < dm) (ff16 : Nat) (hff16 : ff16 < dm) : dm ≤ 4 := by
  first | assumption | omega | decide
theorem lf_X11_slipped_18 (a : Nat → Nat) (ap : Int32) (sn : Nat) (sk : Nat) (scu : Int32) (sch : Int32) (dm : Nat) (d0 : Nat → Int32) (d1 : Nat → Int32) (d2 : Nat → Int32) (d3 : Nat → Int32) (n1 : Int32) (n2 : Int32) (n3 : Int32) (n4 : Int32) (n5 : Int32) (n6 : Int32) (hsn : sn ≤ 24) (hsk : sk ≤ 8) (hdm : dm ≤ 4) (ff3 : Nat) (ss3 : Nat) (dd3 : Nat) (hff3 : ff3 < sn) (hss3 : ss3 < sk) (hdd3 : dd3 < 2) (c_5 : ¬ n1 = n2) (c_6 : ¬ n1 = n3) (c_7 : ¬ n2 = n3) (ff10 : Nat) (hff10 : ff10 < dm) (ff13 : Nat) (hff13 : ff13 < dm) (ff16 : Nat) (hff16 : ff16 < dm) : ff10 < dm := by
  first | assumption | omega | decide
theorem lf_X11_slipped_19 (a : Nat → Nat) (ap : Int32) (sn : Nat) (sk : Nat) (scu : Int32) (sch : Int32) (dm : Nat) (d0 : Nat → Int32) (d1 : Nat → Int32) (d2 : Nat → Int32) (d3 : Nat → Int32) (n1 : Int32) (n2 : Int32) (n3 : Int32) (n4 : Int32) (n5 : Int32) (n6 : Int32) (hsn : sn ≤ 24) (hsk : sk ≤ 8) (hdm : dm ≤ 4) (ff3 : Nat) (ss3 : Nat) (dd3 : Nat) (hff3 : ff3 < sn) (hss3 : ss3 < sk) (hdd3 : dd3 < 2) (c_5 : ¬ n1 = n2) (c_6 : ¬ n1 = n3) (c_7 : ¬ n2 = n3) (ff10 : Nat) (hff10 : ff10 < dm) (ff13 : Nat) (hff13 : ff13 < dm) (ff16 : Nat) (hff16 : ff16 < dm) : ff16 < dm := by
  first | assumption | omega | decide
theorem lf_X11_slipped_20 (a : Nat → Nat) (ap : Int32) (sn : Nat) (sk : Nat) (scu : Int32) (sch : Int32) (dm : Nat) (d0 : Nat → Int32) (d1 : Nat → Int32) (d2 : Nat → Int32) (d3 : Nat → Int32) (n1 : Int32) (n2 : Int32) (n3 : Int32) (n4 : Int32) (n5 : Int32) (n6 : Int32) (hsn : sn ≤ 24) (hsk : sk ≤ 8) (hdm : dm ≤ 4) (ff3 : Nat) (ss3 : Nat) (dd3 : Nat) (hff3 : ff3 < sn) (hss3 : ss3 < sk) (hdd3 : dd3 < 2) (c_5 : ¬ n1 = n2) (c_6 : ¬ n1 = n3) (c_7 : ¬ n2 = n3) (ff10 : Nat) (hff10 : ff10 < dm) (ff13 : Nat) (hff13 : ff13 < dm) (ff16 : Nat) (hff16 : ff16 < dm) : ((ff3 * 8 + ss3) * 2 + dd3) < 384 := by
  first | assumption | omega | decide
theorem lf_X11_slipped_23 (a : Nat → Nat) (ap : Int32) (sn : Nat) (sk : Nat) (scu : Int32) (sch : Int32) (dm : Nat) (d0 : Nat → Int32) (d1 : Nat → Int32) (d2 : Nat → Int32) (d3 : Nat → Int32) (n1 : Int32) (n2 : Int32) (n3 : Int32) (n4 : Int32) (n5 : Int32) (n6 : Int32) (hsn : sn ≤ 24) (hsk : sk ≤ 8) (hdm : dm ≤ 4) (ff3 : Nat) (ss3 : Nat) (dd3 : Nat) (hff3 : ff3 < sn) (hss3 : ss3 < sk) (hdd3 : dd3 < 2) (c_5 : ¬ n1 = n2) (c_6 : ¬ n1 = n3) (c_7 : ¬ n2 = n3) (ff10 : Nat) (hff10 : ff10 < dm) (ff13 : Nat) (hff13 : ff13 < dm) (ff16 : Nat) (hff16 : ff16 < dm) (d3_22 : Nat → Int32) (r_21 : Int32) : dm ≤ 4 := by
  first | assumption | omega | decide
theorem lf_X11_slipped_24 (a : Nat → Nat) (ap : Int32) (sn : Nat) (sk : Nat) (scu : Int32) (sch : Int32) (dm : Nat) (d0 : Nat → Int32) (d1 : Nat → Int32) (d2 : Nat → Int32) (d3 : Nat → Int32) (n1 : Int32) (n2 : Int32) (n3 : Int32) (n4 : Int32) (n5 : Int32) (n6 : Int32) (hsn : sn ≤ 24) (hsk : sk ≤ 8) (hdm : dm ≤ 4) (ff3 : Nat) (ss3 : Nat) (dd3 : Nat) (hff3 : ff3 < sn) (hss3 : ss3 < sk) (hdd3 : dd3 < 2) (c_5 : ¬ n1 = n2) (c_6 : ¬ n1 = n3) (c_7 : ¬ n2 = n3) (ff10 : Nat) (hff10 : ff10 < dm) (ff13 : Nat) (hff13 : ff13 < dm) (ff16 : Nat) (hff16 : ff16 < dm) (d3_22 : Nat → Int32) (r_21 : Int32) : ff13 < dm := by
  first | assumption | omega | decide
theorem lf_X11_slipped_25 (a : Nat → Nat) (ap : Int32) (sn : Nat) (sk : Nat) (scu : Int32) (sch : Int32) (dm : Nat) (d0 : Nat → Int32) (d1 : Nat → Int32) (d2 : Nat → Int32) (d3 : Nat → Int32) (n1 : Int32) (n2 : Int32) (n3 : Int32) (n4 : Int32) (n5 : Int32) (n6 : Int32) (hsn : sn ≤ 24) (hsk : sk ≤ 8) (hdm : dm ≤ 4) (ff3 : Nat) (ss3 : Nat) (dd3 : Nat) (hff3 : ff3 < sn) (hss3 : ss3 < sk) (hdd3 : dd3 < 2) (c_5 : ¬ n1 = n2) (c_6 : ¬ n1 = n3) (c_7 : ¬ n2 = n3) (ff10 : Nat) (hff10 : ff10 < dm) (ff13 : Nat) (hff13 : ff13 < dm) (ff16 : Nat) (hff16 : ff16 < dm) (d3_22 : Nat → Int32) (r_21 : Int32) : ff16 < dm := by
  first | assumption | omega | decide
theorem lf_X11_slipped_26 (a : Nat → Nat) (ap : Int32) (sn : Nat) (sk : Nat) (scu : Int32) (sch : Int32) (dm : Nat) (d0 : Nat → Int32) (d1 : Nat → Int32) (d2 : Nat → Int32) (d3 : Nat → Int32) (n1 : Int32) (n2 : Int32) (n3 : Int32) (n4 : Int32) (n5 : Int32) (n6 : Int32) (hsn : sn ≤ 24) (hsk : sk ≤ 8) (hdm : dm ≤ 4) (ff3 : Nat) (ss3 : Nat) (dd3 : Nat) (hff3 : ff3 < sn) (hss3 : ss3 < sk) (hdd3 : dd3 < 2) (c_5 : ¬ n1 = n2) (c_6 : ¬ n1 = n3) (c_7 : ¬ n2 = n3) (ff10 : Nat) (hff10 : ff10 < dm) (ff13 : Nat) (hff13 : ff13 < dm) (ff16 : Nat) (hff16 : ff16 < dm) (d3_22 : Nat → Int32) (r_21 : Int32) : ((ff3 * 8 + ss3) * 2 + dd3) < 384 := by
  first | assumption | omega | decide
set_option maxHeartbeats 4000000 in
set_option maxRecDepth 100000 in
theorem c_X11_slipped (l : Launch) (D : va_G) (cI cB cZ cJ : ClassId) (tx : List (ClassId × FieldType)) (a : Nat → Nat) (ap : Int32) (sn : Nat) (sk : Nat) (scu : Int32) (sch : Int32) (dm : Nat) (d0 : Nat → Int32) (d1 : Nat → Int32) (d2 : Nat → Int32) (d3 : Nat → Int32) (n1 : Int32) (n2 : Int32) (n3 : Int32) (n4 : Int32) (n5 : Int32) (n6 : Int32) (hsn : sn ≤ 24) (hsk : sk ≤ 8) (hdm : dm ≤ 4) : WrI l D cI cB cZ cJ tx yX11_slipped cX11_slipped 10 (some .int) 6 0 0 [.ref (a 0), .int n1, .int n2, .int n3, .int n4, .int n5, .int n6] [(a 0, .inr (11, [.ref (a 1), .ref (a 2), .ref (a 3), .ref (a 4), .ref (a 5), .ref (a 6), .ref (a 7), .ref (a 8), .ref (a 9), .ref (a 10), .ref (a 11), .ref (a 12), .int ap])), (a 5, .inr (4, [.ref (a 18), .ref (a 19), .ref (a 20), .ref (a 21), .ref (a 22), .ref (a 23), .ref (a 24), .int (nI sn), .int (nI sk), .int scu, .int sch])), (a 6, .inr (0, [.ref (a 5), .ref (a 25), .ref (a 26), .ref (a 27), .ref (a 28), .ref (a 29), .int (nI dm)])), (a 25, .inl (cI, 1536, .inl d0)), (a 26, .inl (cI, 1536, .inl d1)), (a 27, .inl (cZ, 1536, .inl d2)), (a 28, .inl (cI, 384, .inl d3))] (fun (r : Int32) (v : (Nat → Int32)) => True) (fun v => [(a 0, .inr (11, [.ref (a 1), .ref (a 2), .ref (a 3), .ref (a 4), .ref (a 5), .ref (a 6), .ref (a 7), .ref (a 8), .ref (a 9), .ref (a 10), .ref (a 11), .ref (a 12), .int ap])), (a 5, .inr (4, [.ref (a 18), .ref (a 19), .ref (a 20), .ref (a 21), .ref (a 22), .ref (a 23), .ref (a 24), .int (nI sn), .int (nI sk), .int scu, .int sch])), (a 6, .inr (0, [.ref (a 5), .ref (a 25), .ref (a 26), .ref (a 27), .ref (a 28), .ref (a 29), .int (nI dm)])), (a 25, .inl (cI, 1536, .inl d0)), (a 26, .inl (cI, 1536, .inl d1)), (a 27, .inl (cZ, 1536, .inl d2)), (a 28, .inl (cI, 384, .inl v))]) := by
  refine wri_of2 (by decide) (Nat.le_of_ble_eq_true rfl) ?_
  intro p e s m below meth c A ls H locs hC hK hP hD hA hS hl
  obtain ⟨hx, hb, hr, hml, hown, hts, hlocks, hin⟩ := hC
  have hown : s.vm.findClass RX11 = some m.cls := hown
  have hl : lv_has ls 10 [(0, .ref (a 0)), (1, .int n1), (2, .int n2), (3, .int n3), (4, .int n4), (5, .int n5), (6, .int n6)] := hl
  refine lv_aload_n hx hb dX11_slipped_0 rfl (lv_at hl 0 rfl) ?_
  refine va_get (D := D) (ci := 11) (v := .ref (a 5)) (C := RX11) (T := TX11) (N := 13) hx hb hts inT_X11 hown hK.1 hP 0 rfl rfl 4 (by decide) (hts _ k_487) (fun _ h9 => h9) rfl dX11_slipped_1 ?_
  refine lv_iload hx hb dX11_slipped_4 (lv_at hl 4 rfl) ?_
  refine lv_iload hx hb dX11_slipped_6 (lv_at hl 5 rfl) ?_
  refine lv_iload hx hb dX11_slipped_8 (lv_at hl 6 rfl) ?_
  refine eRi (va_runV (As := [.int n4, .int n5, .int n6]) (rest := []) ⟨hx, hb, hml, hown, hts⟩ (c_X4_rivetAt_a l D cI cB cZ cJ tx a sn sk scu sch n4 n5 n6 (lf_X11_slipped_1 a ap sn sk scu sch dm d0 d1 d2 d3 n1 n2 n3 n4 n5 n6 hsn hsk hdm) (lf_X11_slipped_2 a ap sn sk scu sch dm d0 d1 d2 d3 n1 n2 n3 n4 n5 n6 hsn hsk hdm) H.size) (zV hts k_850 v_X4_rivetAt ⟨Nat.le_of_ble_eq_true rfl, Nat.le_of_ble_eq_true rfl⟩) (pV (px1 hK hP 1 rfl) hK hP 1 rfl rfl) rfl rfl hl.1 rfl (lv_room (Nat.le_of_ble_eq_true rfl)) dX11_slipped_10 ⟨Nat.le_of_ble_eq_true rfl, Nat.le_of_ble_eq_true rfl⟩) hP hS hA (fun r_3 H locs wr_3 hP hS => ?_)
  rcases wr_3 with rfl | ⟨ff3, ss3, dd3, hff3, hss3, hdd3, rfl, rfl, rfl, rfl⟩
  · refine lv_istore (lv' := [(7, .int (-1)), (0, .ref (a 0)), (1, .int n1), (2, .int n2), (3, .int n3), (4, .int n4), (5, .int n5), (6, .int n6)]) hx hb dX11_slipped_13 hl (by decide) rfl (fun ls hl => ?_)
    refine lv_iload hx hb dX11_slipped_15 (lv_at hl 0 rfl) ?_
    refine lv_if_lt (tgt := 35) hx hb dX11_slipped_17 (by decide) (fun _ => ?_) (fun c => absurd c (by decide))
    refine lv_iconst (v := (-1)) hx hb dX11_slipped_35 (by decide) ?_
    exact W.iret (v := (-1)) hx hb hr (fun tt9 ht hW => ⟨⟨((-1) : Int32), ((d3 : Nat → Int32)), rfl, trivial, ⟨by rw [ht]; exact hP, hD⟩⟩, hS.F ht⟩) hS.2.2 dX11_slipped_36 hlocks
  · refine lv_istore (lv' := [(7, .int (nI ((ff3 * 8 + ss3) * 2 + dd3))), (0, .ref (a 0)), (1, .int n1), (2, .int n2), (3, .int n3), (4, .int (nI ff3)), (5, .int (nI ss3)), (6, .int (nI dd3))]) hx hb dX11_slipped_13 hl (by decide) rfl (fun ls hl => ?_)
    refine lv_iload hx hb dX11_slipped_15 (lv_at hl 0 rfl) ?_
    refine lv_if_lt (tgt := 35) hx hb dX11_slipped_17 (by decide) (fun c => absurd c (lf_X11_slipped_4 a ap sn sk scu sch dm d0 d1 d2 d3 n1 n2 n3 (nI ff3) (nI ss3) (nI dd3) hsn hsk hdm ff3 ss3 dd3 hff3 hss3 hdd3)) (fun _ => ?_)
    refine lv_iload_n hx hb dX11_slipped_20 rfl (lv_at hl 2 rfl) ?_
    refine lv_iload_n hx hb dX11_slipped_21 rfl (lv_at hl 3 rfl) ?_
    refine lv_icmp_eq (tgt := 35) hx hb dX11_slipped_22 (by decide) (fun c_5 => ?_) (fun c_5 => ?_)
    · refine lv_iconst (v := (-1)) hx hb dX11_slipped_35 (by decide) ?_
      exact W.iret (v := (-1)) hx hb hr (fun tt9 ht hW => ⟨⟨((-1) : Int32), ((d3 : Nat → Int32)), rfl, trivial, ⟨by rw [ht]; exact hP, hD⟩⟩, hS.F ht⟩) hS.2.2 dX11_slipped_36 hlocks
    · refine lv_iload_n hx hb dX11_slipped_25 rfl (lv_at hl 2 rfl) ?_
      refine lv_iload_n hx hb dX11_slipped_26 rfl (lv_at hl 4 rfl) ?_
      refine lv_icmp_eq (tgt := 35) hx hb dX11_slipped_27 (by decide) (fun c_6 => ?_) (fun c_6 => ?_)
      · refine lv_iconst (v := (-1)) hx hb dX11_slipped_35 (by decide) ?_
        exact W.iret (v := (-1)) hx hb hr (fun tt9 ht hW => ⟨⟨((-1) : Int32), ((d3 : Nat → Int32)), rfl, trivial, ⟨by rw [ht]; exact hP, hD⟩⟩, hS.F ht⟩) hS.2.2 dX11_slipped_36 hlocks
      · refine lv_iload_n hx hb dX11_slipped_30 rfl (lv_at hl 3 rfl) ?_
        refine lv_iload_n hx hb dX11_slipped_31 rfl (lv_at hl 4 rfl) ?_
        refine lv_icmp_ne (tgt := 37) hx hb dX11_slipped_32 (by decide) (fun c_7 => ?_) (fun c_7 => ?_)
        · refine lv_aload_n hx hb dX11_slipped_37 rfl (lv_at hl 1 rfl) ?_
          refine va_get (D := D) (ci := 11) (v := .ref (a 6)) (C := RX11) (T := TX11) (N := 13) hx hb hts inT_X11 hown hK.1 hP 0 rfl rfl 5 (by decide) (hts _ k_488) (fun _ h9 => h9) rfl dX11_slipped_38 ?_
          refine lv_iload_n hx hb dX11_slipped_41 rfl (lv_at hl 2 rfl) ?_
          refine lv_iload hx hb dX11_slipped_42 (lv_at hl 0 rfl) ?_
          refine eRi (va_runV (As := [.int n1, .int (nI ((ff3 * 8 + ss3) * 2 + dd3))]) (rest := []) ⟨hx, hb, hml, hown, hts⟩ (c_X0_hasMark_a l D cI cB cZ cJ tx a dm d2 ((ff3 * 8 + ss3) * 2 + dd3) n1 (lf_X11_slipped_8 a ap sn sk scu sch dm d0 d1 d2 d3 n1 n2 n3 (nI ff3) (nI ss3) (nI dd3) hsn hsk hdm ff3 ss3 dd3 hff3 hss3 hdd3 c_5 c_6 c_7) (lf_X11_slipped_9 a ap sn sk scu sch dm d0 d1 d2 d3 n1 n2 n3 (nI ff3) (nI ss3) (nI dd3) hsn hsk hdm ff3 ss3 dd3 hff3 hss3 hdd3 c_5 c_6 c_7) H.size) (zV hts k_933 v_X0_hasMark ⟨Nat.le_of_ble_eq_true rfl, Nat.le_of_ble_eq_true rfl⟩) (pV (pxS hK hP hD [2, 5] (by decide) rfl) hK hP 2 rfl rfl) rfl rfl hl.1 rfl (lv_room (Nat.le_of_ble_eq_true rfl)) dX11_slipped_44 ⟨Nat.le_of_ble_eq_true rfl, Nat.le_of_ble_eq_true rfl⟩) hP hS hA (fun r_10 H locs wr_10 hP hS => ?_)
          rcases wr_10 with rfl | ⟨ff10, hff10, rfl, rfl⟩
          · refine lv_if_eq (tgt := 76) hx hb dX11_slipped_47 (by decide) (fun _ => ?_) (fun c => absurd c (by decide))
            refine lv_iconst (v := (-1)) hx hb dX11_slipped_76 (by decide) ?_
            exact W.iret (v := (-1)) hx hb hr (fun tt9 ht hW => ⟨⟨((-1) : Int32), ((d3 : Nat → Int32)), rfl, trivial, ⟨by rw [ht]; exact hP, hD⟩⟩, hS.F ht⟩) hS.2.2 dX11_slipped_77 hlocks
          · refine lv_if_eq (tgt := 76) hx hb dX11_slipped_47 (by decide) (fun c => absurd c (by decide)) (fun _ => ?_)
            refine lv_aload_n hx hb dX11_slipped_50 rfl (lv_at hl 1 rfl) ?_
            refine va_get (D := D) (ci := 11) (v := .ref (a 6)) (C := RX11) (T := TX11) (N := 13) hx hb hts inT_X11 hown hK.1 hP 0 rfl rfl 5 (by decide) (hts _ k_488) (fun _ h9 => h9) rfl dX11_slipped_51 ?_
            refine lv_iload_n hx hb dX11_slipped_54 rfl (lv_at hl 3 rfl) ?_
            refine lv_iload hx hb dX11_slipped_55 (lv_at hl 0 rfl) ?_
            refine eRi (va_runV (As := [.int n2, .int (nI ((ff3 * 8 + ss3) * 2 + dd3))]) (rest := []) ⟨hx, hb, hml, hown, hts⟩ (c_X0_hasMark_a l D cI cB cZ cJ tx a dm d2 ((ff3 * 8 + ss3) * 2 + dd3) n2 (lf_X11_slipped_11 a ap sn sk scu sch dm d0 d1 d2 d3 (nI ff10) n2 n3 (nI ff3) (nI ss3) (nI dd3) hsn hsk hdm ff3 ss3 dd3 hff3 hss3 hdd3 c_5 c_6 c_7 ff10 hff10) (lf_X11_slipped_12 a ap sn sk scu sch dm d0 d1 d2 d3 (nI ff10) n2 n3 (nI ff3) (nI ss3) (nI dd3) hsn hsk hdm ff3 ss3 dd3 hff3 hss3 hdd3 c_5 c_6 c_7 ff10 hff10) H.size) (zV hts k_933 v_X0_hasMark ⟨Nat.le_of_ble_eq_true rfl, Nat.le_of_ble_eq_true rfl⟩) (pV (pxS hK hP hD [2, 5] (by decide) rfl) hK hP 2 rfl rfl) rfl rfl hl.1 rfl (lv_room (Nat.le_of_ble_eq_true rfl)) dX11_slipped_57 ⟨Nat.le_of_ble_eq_true rfl, Nat.le_of_ble_eq_true rfl⟩) hP hS hA (fun r_13 H locs wr_13 hP hS => ?_)
            rcases wr_13 with rfl | ⟨ff13, hff13, rfl, rfl⟩
            · refine lv_if_eq (tgt := 76) hx hb dX11_slipped_60 (by decide) (fun _ => ?_) (fun c => absurd c (by decide))
              refine lv_iconst (v := (-1)) hx hb dX11_slipped_76 (by decide) ?_
              exact W.iret (v := (-1)) hx hb hr (fun tt9 ht hW => ⟨⟨((-1) : Int32), ((d3 : Nat → Int32)), rfl, trivial, ⟨by rw [ht]; exact hP, hD⟩⟩, hS.F ht⟩) hS.2.2 dX11_slipped_77 hlocks
            · refine lv_if_eq (tgt := 76) hx hb dX11_slipped_60 (by decide) (fun c => absurd c (by decide)) (fun _ => ?_)
              refine lv_aload_n hx hb dX11_slipped_63 rfl (lv_at hl 1 rfl) ?_
              refine va_get (D := D) (ci := 11) (v := .ref (a 6)) (C := RX11) (T := TX11) (N := 13) hx hb hts inT_X11 hown hK.1 hP 0 rfl rfl 5 (by decide) (hts _ k_488) (fun _ h9 => h9) rfl dX11_slipped_64 ?_
              refine lv_iload_n hx hb dX11_slipped_67 rfl (lv_at hl 4 rfl) ?_
              refine lv_iload hx hb dX11_slipped_68 (lv_at hl 0 rfl) ?_
              refine eRi (va_runV (As := [.int n3, .int (nI ((ff3 * 8 + ss3) * 2 + dd3))]) (rest := []) ⟨hx, hb, hml, hown, hts⟩ (c_X0_hasMark_a l D cI cB cZ cJ tx a dm d2 ((ff3 * 8 + ss3) * 2 + dd3) n3 (lf_X11_slipped_14 a ap sn sk scu sch dm d0 d1 d2 d3 (nI ff10) (nI ff13) n3 (nI ff3) (nI ss3) (nI dd3) hsn hsk hdm ff3 ss3 dd3 hff3 hss3 hdd3 c_5 c_6 c_7 ff10 hff10 ff13 hff13) (lf_X11_slipped_15 a ap sn sk scu sch dm d0 d1 d2 d3 (nI ff10) (nI ff13) n3 (nI ff3) (nI ss3) (nI dd3) hsn hsk hdm ff3 ss3 dd3 hff3 hss3 hdd3 c_5 c_6 c_7 ff10 hff10 ff13 hff13) H.size) (zV hts k_933 v_X0_hasMark ⟨Nat.le_of_ble_eq_true rfl, Nat.le_of_ble_eq_true rfl⟩) (pV (pxS hK hP hD [2, 5] (by decide) rfl) hK hP 2 rfl rfl) rfl rfl hl.1 rfl (lv_room (Nat.le_of_ble_eq_true rfl)) dX11_slipped_70 ⟨Nat.le_of_ble_eq_true rfl, Nat.le_of_ble_eq_true rfl⟩) hP hS hA (fun r_16 H locs wr_16 hP hS => ?_)
              rcases wr_16 with rfl | ⟨ff16, hff16, rfl, rfl⟩
              · refine lv_if_ne (tgt := 78) hx hb dX11_slipped_73 (by decide) (fun c => absurd c (by decide)) (fun _ => ?_)
                refine lv_iconst (v := (-1)) hx hb dX11_slipped_76 (by decide) ?_
                exact W.iret (v := (-1)) hx hb hr (fun tt9 ht hW => ⟨⟨((-1) : Int32), ((d3 : Nat → Int32)), rfl, trivial, ⟨by rw [ht]; exact hP, hD⟩⟩, hS.F ht⟩) hS.2.2 dX11_slipped_77 hlocks
              · refine lv_if_ne (tgt := 78) hx hb dX11_slipped_73 (by decide) (fun _ => ?_) (fun c => absurd c (by decide))
                refine lv_aload_n hx hb dX11_slipped_78 rfl (lv_at hl 1 rfl) ?_
                refine va_get (D := D) (ci := 11) (v := .ref (a 6)) (C := RX11) (T := TX11) (N := 13) hx hb hts inT_X11 hown hK.1 hP 0 rfl rfl 5 (by decide) (hts _ k_488) (fun _ h9 => h9) rfl dX11_slipped_79 ?_
                refine lv_iload_n hx hb dX11_slipped_82 rfl (lv_at hl 2 rfl) ?_
                refine lv_iload_n hx hb dX11_slipped_83 rfl (lv_at hl 4 rfl) ?_
                refine lv_iload hx hb dX11_slipped_84 (lv_at hl 0 rfl) ?_
                refine eWi (wr := [(a 0, .inr (11, [.ref (a 1), .ref (a 2), .ref (a 3), .ref (a 4), .ref (a 5), .ref (a 6), .ref (a 7), .ref (a 8), .ref (a 9), .ref (a 10), .ref (a 11), .ref (a 12), .int ap])), (a 5, .inr (4, [.ref (a 18), .ref (a 19), .ref (a 20), .ref (a 21), .ref (a 22), .ref (a 23), .ref (a 24), .int (nI sn), .int (nI sk), .int scu, .int sch]))]) (va_runV (As := [.int (nI ff10), .int (nI ff16), .int (nI ((ff3 * 8 + ss3) * 2 + dd3))]) (rest := []) ⟨hx, hb, hml, hown, hts⟩ (c_X0_distance l D cI cB cZ cJ tx a dm d0 d1 d2 d3 ff10 ff16 ((ff3 * 8 + ss3) * 2 + dd3) (lf_X11_slipped_17 a ap sn sk scu sch dm d0 d1 d2 d3 (nI ff10) (nI ff13) (nI ff16) (nI ff3) (nI ss3) (nI dd3) hsn hsk hdm ff3 ss3 dd3 hff3 hss3 hdd3 c_5 c_6 c_7 ff10 hff10 ff13 hff13 ff16 hff16) (lf_X11_slipped_18 a ap sn sk scu sch dm d0 d1 d2 d3 (nI ff10) (nI ff13) (nI ff16) (nI ff3) (nI ss3) (nI dd3) hsn hsk hdm ff3 ss3 dd3 hff3 hss3 hdd3 c_5 c_6 c_7 ff10 hff10 ff13 hff13 ff16 hff16) (lf_X11_slipped_19 a ap sn sk scu sch dm d0 d1 d2 d3 (nI ff10) (nI ff13) (nI ff16) (nI ff3) (nI ss3) (nI dd3) hsn hsk hdm ff3 ss3 dd3 hff3 hss3 hdd3 c_5 c_6 c_7 ff10 hff10 ff13 hff13 ff16 hff16) (lf_X11_slipped_20 a ap sn sk scu sch dm d0 d1 d2 d3 (nI ff10) (nI ff13) (nI ff16) (nI ff3) (nI ss3) (nI dd3) hsn hsk hdm ff3 ss3 dd3 hff3 hss3 hdd3 c_5 c_6 c_7 ff10 hff10 ff13 hff13 ff16 hff16) H.size) (zV hts k_985 v_X0_distance ⟨Nat.le_of_ble_eq_true rfl, Nat.le_of_ble_eq_true rfl⟩) (pV (pxS hK hP hD [2, 3, 4, 5, 6] (by decide) rfl) hK hP 2 rfl rfl) rfl rfl hl.1 rfl (lv_room (Nat.le_of_ble_eq_true rfl)) dX11_slipped_86 ⟨Nat.le_of_ble_eq_true rfl, Nat.le_of_ble_eq_true rfl⟩) hP hD hS hA [2, 3, 4, 5, 6] [0, 1] rfl rfl (by decide) (by decide) (fun r_21 u_22 H locs wr_21 hP hD hS => ?_)
                obtain ⟨d3_22, rfl⟩ : ∃ z, z = u_22 := ⟨_, rfl⟩
                have hP : va_P D vwCl [(a 0, .inr (11, [.ref (a 1), .ref (a 2), .ref (a 3), .ref (a 4), .ref (a 5), .ref (a 6), .ref (a 7), .ref (a 8), .ref (a 9), .ref (a 10), .ref (a 11), .ref (a 12), .int ap])), (a 5, .inr (4, [.ref (a 18), .ref (a 19), .ref (a 20), .ref (a 21), .ref (a 22), .ref (a 23), .ref (a 24), .int (nI sn), .int (nI sk), .int scu, .int sch])), (a 6, .inr (0, [.ref (a 5), .ref (a 25), .ref (a 26), .ref (a 27), .ref (a 28), .ref (a 29), .int (nI dm)])), (a 25, .inl (cI, 1536, .inl d0)), (a 26, .inl (cI, 1536, .inl d1)), (a 27, .inl (cZ, 1536, .inl d2)), (a 28, .inl (cI, 384, .inl d3_22))] H := hP
                have hD : va_D A [(a 0, .inr (11, [.ref (a 1), .ref (a 2), .ref (a 3), .ref (a 4), .ref (a 5), .ref (a 6), .ref (a 7), .ref (a 8), .ref (a 9), .ref (a 10), .ref (a 11), .ref (a 12), .int ap])), (a 5, .inr (4, [.ref (a 18), .ref (a 19), .ref (a 20), .ref (a 21), .ref (a 22), .ref (a 23), .ref (a 24), .int (nI sn), .int (nI sk), .int scu, .int sch])), (a 6, .inr (0, [.ref (a 5), .ref (a 25), .ref (a 26), .ref (a 27), .ref (a 28), .ref (a 29), .int (nI dm)])), (a 25, .inl (cI, 1536, .inl d0)), (a 26, .inl (cI, 1536, .inl d1)), (a 27, .inl (cZ, 1536, .inl d2)), (a 28, .inl (cI, 384, .inl d3_22))] := hD
                refine lv_istore (lv' := [(8, .int r_21), (7, .int (nI ((ff3 * 8 + ss3) * 2 + dd3))), (0, .ref (a 0)), (1, .int (nI ff10)), (2, .int (nI ff13)), (3, .int (nI ff16)), (4, .int (nI ff3)), (5, .int (nI ss3)), (6, .int (nI dd3))]) hx hb dX11_slipped_89 hl (by decide) rfl (fun ls hl => ?_)
                refine lv_aload_n hx hb dX11_slipped_91 rfl (lv_at hl 2 rfl) ?_
                refine va_get (D := D) (ci := 11) (v := .ref (a 6)) (C := RX11) (T := TX11) (N := 13) hx hb hts inT_X11 hown hK.1 hP 0 rfl rfl 5 (by decide) (hts _ k_488) (fun _ h9 => h9) rfl dX11_slipped_92 ?_
                refine lv_iload_n hx hb dX11_slipped_95 rfl (lv_at hl 4 rfl) ?_
                refine lv_iload_n hx hb dX11_slipped_96 rfl (lv_at hl 5 rfl) ?_
                refine lv_iload hx hb dX11_slipped_97 (lv_at hl 1 rfl) ?_
                refine eWi (wr := [(a 0, .inr (11, [.ref (a 1), .ref (a 2), .ref (a 3), .ref (a 4), .ref (a 5), .ref (a 6), .ref (a 7), .ref (a 8), .ref (a 9), .ref (a 10), .ref (a 11), .ref (a 12), .int ap])), (a 5, .inr (4, [.ref (a 18), .ref (a 19), .ref (a 20), .ref (a 21), .ref (a 22), .ref (a 23), .ref (a 24), .int (nI sn), .int (nI sk), .int scu, .int sch]))]) (va_runV (As := [.int (nI ff13), .int (nI ff16), .int (nI ((ff3 * 8 + ss3) * 2 + dd3))]) (rest := []) ⟨hx, hb, hml, hown, hts⟩ (c_X0_distance l D cI cB cZ cJ tx a dm d0 d1 d2 d3_22 ff13 ff16 ((ff3 * 8 + ss3) * 2 + dd3) (lf_X11_slipped_23 a ap sn sk scu sch dm d0 d1 d2 d3 (nI ff10) (nI ff13) (nI ff16) (nI ff3) (nI ss3) (nI dd3) hsn hsk hdm ff3 ss3 dd3 hff3 hss3 hdd3 c_5 c_6 c_7 ff10 hff10 ff13 hff13 ff16 hff16 d3_22 r_21) (lf_X11_slipped_24 a ap sn sk scu sch dm d0 d1 d2 d3 (nI ff10) (nI ff13) (nI ff16) (nI ff3) (nI ss3) (nI dd3) hsn hsk hdm ff3 ss3 dd3 hff3 hss3 hdd3 c_5 c_6 c_7 ff10 hff10 ff13 hff13 ff16 hff16 d3_22 r_21) (lf_X11_slipped_25 a ap sn sk scu sch dm d0 d1 d2 d3 (nI ff10) (nI ff13) (nI ff16) (nI ff3) (nI ss3) (nI dd3) hsn hsk hdm ff3 ss3 dd3 hff3 hss3 hdd3 c_5 c_6 c_7 ff10 hff10 ff13 hff13 ff16 hff16 d3_22 r_21) (lf_X11_slipped_26 a ap sn sk scu sch dm d0 d1 d2 d3 (nI ff10) (nI ff13) (nI ff16) (nI ff3) (nI ss3) (nI dd3) hsn hsk hdm ff3 ss3 dd3 hff3 hss3 hdd3 c_5 c_6 c_7 ff10 hff10 ff13 hff13 ff16 hff16 d3_22 r_21) H.size) (zV hts k_985 v_X0_distance ⟨Nat.le_of_ble_eq_true rfl, Nat.le_of_ble_eq_true rfl⟩) (pV (pxS hK hP hD [2, 3, 4, 5, 6] (by decide) rfl) hK hP 2 rfl rfl) rfl rfl hl.1 rfl (lv_room (Nat.le_of_ble_eq_true rfl)) dX11_slipped_99 ⟨Nat.le_of_ble_eq_true rfl, Nat.le_of_ble_eq_true rfl⟩) hP hD hS hA [2, 3, 4, 5, 6] [0, 1] rfl rfl (by decide) (by decide) (fun r_27 u_28 H locs wr_27 hP hD hS => ?_)
                obtain ⟨d3_28, rfl⟩ : ∃ z, z = u_28 := ⟨_, rfl⟩
                have hP : va_P D vwCl [(a 0, .inr (11, [.ref (a 1), .ref (a 2), .ref (a 3), .ref (a 4), .ref (a 5), .ref (a 6), .ref (a 7), .ref (a 8), .ref (a 9), .ref (a 10), .ref (a 11), .ref (a 12), .int ap])), (a 5, .inr (4, [.ref (a 18), .ref (a 19), .ref (a 20), .ref (a 21), .ref (a 22), .ref (a 23), .ref (a 24), .int (nI sn), .int (nI sk), .int scu, .int sch])), (a 6, .inr (0, [.ref (a 5), .ref (a 25), .ref (a 26), .ref (a 27), .ref (a 28), .ref (a 29), .int (nI dm)])), (a 25, .inl (cI, 1536, .inl d0)), (a 26, .inl (cI, 1536, .inl d1)), (a 27, .inl (cZ, 1536, .inl d2)), (a 28, .inl (cI, 384, .inl d3_28))] H := hP
                have hD : va_D A [(a 0, .inr (11, [.ref (a 1), .ref (a 2), .ref (a 3), .ref (a 4), .ref (a 5), .ref (a 6), .ref (a 7), .ref (a 8), .ref (a 9), .ref (a 10), .ref (a 11), .ref (a 12), .int ap])), (a 5, .inr (4, [.ref (a 18), .ref (a 19), .ref (a 20), .ref (a 21), .ref (a 22), .ref (a 23), .ref (a 24), .int (nI sn), .int (nI sk), .int scu, .int sch])), (a 6, .inr (0, [.ref (a 5), .ref (a 25), .ref (a 26), .ref (a 27), .ref (a 28), .ref (a 29), .int (nI dm)])), (a 25, .inl (cI, 1536, .inl d0)), (a 26, .inl (cI, 1536, .inl d1)), (a 27, .inl (cZ, 1536, .inl d2)), (a 28, .inl (cI, 384, .inl d3_28))] := hD
                refine lv_istore (lv' := [(9, .int r_27), (8, .int r_21), (7, .int (nI ((ff3 * 8 + ss3) * 2 + dd3))), (0, .ref (a 0)), (1, .int (nI ff10)), (2, .int (nI ff13)), (3, .int (nI ff16)), (4, .int (nI ff3)), (5, .int (nI ss3)), (6, .int (nI dd3))]) hx hb dX11_slipped_102 hl (by decide) rfl (fun ls hl => ?_)
                refine lv_iload hx hb dX11_slipped_104 (lv_at hl 1 rfl) ?_
                refine lv_iload hx hb dX11_slipped_106 (lv_at hl 0 rfl) ?_
                refine lv_icmp_ne (tgt := 113) hx hb dX11_slipped_108 (by decide) (fun c_29 => ?_) (fun c_29 => ?_)
                · refine lv_iload hx hb dX11_slipped_113 (lv_at hl 1 rfl) ?_
                  refine lv_iload hx hb dX11_slipped_115 (lv_at hl 0 rfl) ?_
                  refine lv_icmp_le (tgt := 124) hx hb dX11_slipped_117 (by decide) (fun c_30 => ?_) (fun c_30 => ?_)
                  · refine lv_iconst (v := 1) hx hb dX11_slipped_124 (by decide) ?_
                    exact W.iret (v := 1) hx hb hr (fun tt9 ht hW => ⟨⟨(1 : Int32), ((d3_28 : Nat → Int32)), rfl, trivial, ⟨by rw [ht]; exact hP, hD⟩⟩, hS.F ht⟩) hS.2.2 dX11_slipped_125 hlocks
                  · refine lv_iconst (v := 0) hx hb dX11_slipped_120 (by decide) ?_
                    refine lv_goto (tgt := 125) hx hb dX11_slipped_121 (by decide) ?_
                    exact W.iret (v := 0) hx hb hr (fun tt9 ht hW => ⟨⟨(0 : Int32), ((d3_28 : Nat → Int32)), rfl, trivial, ⟨by rw [ht]; exact hP, hD⟩⟩, hS.F ht⟩) hS.2.2 dX11_slipped_125 hlocks
                · refine lv_iconst (v := 2) hx hb dX11_slipped_111 (by decide) ?_
                  exact W.iret (v := 2) hx hb hr (fun tt9 ht hW => ⟨⟨(2 : Int32), ((d3_28 : Nat → Int32)), rfl, trivial, ⟨by rw [ht]; exact hP, hD⟩⟩, hS.F ht⟩) hS.2.2 dX11_slipped_112 hlocks
        · refine lv_iconst (v := (-1)) hx hb dX11_slipped_35 (by decide) ?_
          exact W.iret (v := (-1)) hx hb hr (fun tt9 ht hW => ⟨⟨((-1) : Int32), ((d3 : Nat → Int32)), rfl, trivial, ⟨by rw [ht]; exact hP, hD⟩⟩, hS.F ht⟩) hS.2.2 dX11_slipped_36 hlocks

theorem lf_X11_commonDivisor_3 (v1 : Int64) (v2 : Int64) (j : Nat) (q1 : Int64) (q2 : Int64) (k9 : Nat) (hj9 : j ≤ 100) (hk9 : 100 < j + (k9 + 1)) (c_1 : 100 ≤ nI j) : 100 ≤ j := by
  exact (nI_leI (a := 100) (b := j) (by omega) (by omega)).mp c_1
theorem lf_X11_commonDivisor_4 (v1 : Int64) (v2 : Int64) (j : Nat) (q1 : Int64) (q2 : Int64) (k9 : Nat) (hj9 : j ≤ 100) (hk9 : 100 < j + (k9 + 1)) (c_1 : 100 ≤ nI j) (n_2 : 100 ≤ j) : True := by
  first | trivial | omega
theorem lf_X11_commonDivisor_6 (v1 : Int64) (v2 : Int64) (j : Nat) (q1 : Int64) (q2 : Int64) (k9 : Nat) (hj9 : j ≤ 100) (hk9 : 100 < j + (k9 + 1)) (c_1 : ¬ 100 ≤ nI j) : j < 100 := by
  exact Nat.lt_of_not_le (fun q => c_1 ((nI_leI (a := 100) (b := j) (by omega) (by omega)).mpr q))
theorem lf_X11_commonDivisor_8 (v1 : Int64) (v2 : Int64) (j : Nat) (q1 : Int64) (q2 : Int64) (k9 : Nat) (hj9 : j ≤ 100) (hk9 : 100 < j + (k9 + 1)) (c_1 : ¬ 100 ≤ nI j) (n_5 : j < 100) (c_7 : lg_cmp q2 0 = 0) : True := by
  first | trivial | omega
theorem lf_X11_commonDivisor_9 (v1 : Int64) (v2 : Int64) (j : Nat) (q1 : Int64) (q2 : Int64) (k9 : Nat) (hj9 : j ≤ 100) (hk9 : 100 < j + (k9 + 1)) (c_1 : ¬ 100 ≤ nI j) (n_5 : j < 100) (c_7 : ¬ lg_cmp q2 0 = 0) : ¬ q2 = 0 := by
  exact fun q => absurd ((lg_cmp_eq _ _).mpr q) (by assumption)
set_option maxHeartbeats 4000000 in
set_option maxRecDepth 100000 in
theorem c_X11_commonDivisor (l : Launch) (D : va_G) (cI cB cZ cJ : ClassId) (tx : List (ClassId × FieldType)) (v1 : Int64) (v2 : Int64) : RdL l D cI cB cZ cJ tx yX11_commonDivisor cX11_commonDivisor 11 (some .long) 0 [.long v1, .long v2] [] (fun r => True) := by
  refine rdl_of2 (by decide) (Nat.le_of_ble_eq_true rfl) ?_
  intro p e s m below meth c A ls H locs hC hK hP hD hA hS hl
  obtain ⟨hx, hb, hr, hml, hown, hts, hlocks, hin⟩ := hC
  have hown : s.vm.findClass RX11 = some m.cls := hown
  have hl : lv_has ls 11 [(0, .long v1), (2, .long v2)] := hl
  refine lv_lload_n hx hb dX11_commonDivisor_0 rfl (lv_at hl 0 rfl) ?_
  refine lv_lstore (lv' := [(4, .long v1), (0, .long v1), (2, .long v2)]) hx hb dX11_commonDivisor_1 hl (by decide) rfl (fun ls hl => ?_)
  refine lv_lload_n hx hb dX11_commonDivisor_3 rfl (lv_at hl 2 rfl) ?_
  refine lv_lstore (lv' := [(6, .long v2), (4, .long v1), (0, .long v1), (2, .long v2)]) hx hb dX11_commonDivisor_4 hl (by decide) rfl (fun ls hl => ?_)
  refine lv_iconst (v := 0) hx hb dX11_commonDivisor_6 (by decide) ?_
  refine lv_istore (lv' := [(8, .int 0), (6, .long v2), (4, .long v1), (0, .long v1), (2, .long v2)]) hx hb dX11_commonDivisor_7 hl (by decide) rfl (fun ls hl => ?_)
  have lp9 : ∀ (k9 : Nat) (j : Nat) (q1 : Int64) (q2 : Int64) (H : Heap) (locs : List Loc) (ls : Array Slot), j ≤ 100 → 100 < j + k9 → va_P D vwCl [] H → va_S A s.heap H locs → lv_has ls 11 [(8, .int (nI j)), (6, .long q2), (4, .long q1), (0, .long v1), (2, .long v2)] → W p l e (rmX 0 0 0) s m ([.long v1, .long v2] : List Value).toArray below meth c H locs 0 0 (MQ below (va_Ql (fun r (_ : Unit) => (fun r => True) r) (fun _ _ => True) A) ([.long v1, .long v2] : List Value).toArray s 0 0 A) (F0 m 9 ls []) := by
    intro k9
    induction k9 with
    | zero =>
      intro j q1 q2 H locs ls hj9 hk9  hP hS hl
      exact absurd hk9 (by omega)
    | succ k9 ih9 =>
      intro j q1 q2 H locs ls hj9 hk9  hP hS hl
      refine lv_iload hx hb dX11_commonDivisor_9 (lv_at hl 0 rfl) ?_
      refine lv_bipush (v := 100) hx hb dX11_commonDivisor_11 (by decide) ?_
      refine lv_icmp_ge (tgt := 44) hx hb dX11_commonDivisor_13 (by decide) (fun c_1 => ?_) (fun c_1 => ?_)
      · have n_2 : 100 ≤ j := (lf_X11_commonDivisor_3 v1 v2 j q1 q2 k9 hj9 hk9 c_1)
        refine lv_lload hx hb dX11_commonDivisor_44 (lv_at hl 2 rfl) ?_
        exact W.lret (v := q1) hx hb hr (fun tt9 ht hW => ⟨⟨(q1 : Int64), (), rfl, (lf_X11_commonDivisor_4 v1 v2 j q1 q2 k9 hj9 hk9 c_1 n_2), trivial⟩, hS.F ht⟩) hS.2.2 dX11_commonDivisor_46 hlocks
      · have n_5 : j < 100 := (lf_X11_commonDivisor_6 v1 v2 j q1 q2 k9 hj9 hk9 c_1)
        refine lv_lload hx hb dX11_commonDivisor_16 (lv_at hl 1 rfl) ?_
        refine lv_lconst (v := 0) hx hb dX11_commonDivisor_18 (by decide) ?_
        refine W.lcmp hx hb dX11_commonDivisor_19 ?_
        refine lv_if_eq (tgt := 44) hx hb dX11_commonDivisor_20 (by decide) (fun c_7 => ?_) (fun c_7 => ?_)
        · refine lv_lload hx hb dX11_commonDivisor_44 (lv_at hl 2 rfl) ?_
          exact W.lret (v := q1) hx hb hr (fun tt9 ht hW => ⟨⟨(q1 : Int64), (), rfl, (lf_X11_commonDivisor_8 v1 v2 j q1 q2 k9 hj9 hk9 c_1 n_5 c_7), trivial⟩, hS.F ht⟩) hS.2.2 dX11_commonDivisor_46 hlocks
        · refine lv_lload hx hb dX11_commonDivisor_23 (lv_at hl 2 rfl) ?_
          refine lv_lload hx hb dX11_commonDivisor_25 (lv_at hl 1 rfl) ?_
          refine lv_lrem hx hb dX11_commonDivisor_27 (lf_X11_commonDivisor_9 v1 v2 j q1 q2 k9 hj9 hk9 c_1 n_5 c_7) ?_
          refine lv_topl (fun x_10 _ => ?_)
          refine lv_lstore (lv' := [(9, .long x_10), (8, .int (nI j)), (6, .long q2), (4, .long q1), (0, .long v1), (2, .long v2)]) hx hb dX11_commonDivisor_28 hl (by decide) rfl (fun ls hl => ?_)
          refine lv_lload hx hb dX11_commonDivisor_30 (lv_at hl 2 rfl) ?_
          refine lv_lstore (lv' := [(4, .long q2), (9, .long x_10), (8, .int (nI j)), (6, .long q2), (0, .long v1), (2, .long v2)]) hx hb dX11_commonDivisor_32 hl (by decide) rfl (fun ls hl => ?_)
          refine lv_lload hx hb dX11_commonDivisor_34 (lv_at hl 1 rfl) ?_
          refine lv_lstore (lv' := [(6, .long x_10), (4, .long q2), (9, .long x_10), (8, .int (nI j)), (0, .long v1), (2, .long v2)]) hx hb dX11_commonDivisor_36 hl (by decide) rfl (fun ls hl => ?_)
          refine lv_iinc (v := nI (j + 1)) (lv' := [(8, .int (nI (j + 1))), (6, .long x_10), (4, .long q2), (9, .long x_10), (0, .long v1), (2, .long v2)]) hx hb dX11_commonDivisor_38 hl (k := 3) rfl (nI_1 j) (by decide) rfl (fun ls hl => ?_)
          refine lv_goto (tgt := 9) hx hb dX11_commonDivisor_41 (by decide) ?_
          exact ih9 (j + 1) q2 x_10 H locs ls (by omega) (by omega)  (hP.sub [] rfl)  hS (lv_sub hl [0, 1, 2, 4, 5] rfl)
  exact lp9 (100 + 1) 0 v1 v2 H locs ls (by omega) (by omega)  (hP.sub [] rfl)  hS (lv_sub hl [0, 1, 2, 3, 4] rfl)

theorem lf_X11_reduced_4 (v1 : Int64) (v2 : Int64) (n1 : Int32) (r_1 : Int64) (c_2 : n1 = 0) (c_3 : ¬ lg_cmp r_1 0 = 0) : ¬ r_1 = 0 := by
  exact fun q => absurd ((lg_cmp_eq _ _).mpr q) (by assumption)
theorem lf_X11_reduced_6 (v1 : Int64) (v2 : Int64) (n1 : Int32) (r_1 : Int64) (c_2 : n1 = 0) (c_3 : ¬ lg_cmp r_1 0 = 0) (x_5 : Int64) : True := by
  first | trivial | omega
theorem lf_X11_reduced_7 (v1 : Int64) (v2 : Int64) (n1 : Int32) (r_1 : Int64) (c_2 : n1 = 0) (c_3 : lg_cmp r_1 0 = 0) : True := by
  first | trivial | omega
theorem lf_X11_reduced_9 (v1 : Int64) (v2 : Int64) (n1 : Int32) (r_1 : Int64) (c_2 : ¬ n1 = 0) (c_8 : ¬ lg_cmp r_1 0 = 0) : ¬ r_1 = 0 := by
  exact fun q => absurd ((lg_cmp_eq _ _).mpr q) (by assumption)
theorem lf_X11_reduced_11 (v1 : Int64) (v2 : Int64) (n1 : Int32) (r_1 : Int64) (c_2 : ¬ n1 = 0) (c_8 : ¬ lg_cmp r_1 0 = 0) (x_10 : Int64) : True := by
  first | trivial | omega
theorem lf_X11_reduced_12 (v1 : Int64) (v2 : Int64) (n1 : Int32) (r_1 : Int64) (c_2 : ¬ n1 = 0) (c_8 : lg_cmp r_1 0 = 0) : True := by
  first | trivial | omega
set_option maxHeartbeats 4000000 in
set_option maxRecDepth 100000 in
theorem c_X11_reduced (l : Launch) (D : va_G) (cI cB cZ cJ : ClassId) (tx : List (ClassId × FieldType)) (v1 : Int64) (v2 : Int64) (n1 : Int32) : RdL l D cI cB cZ cJ tx yX11_reduced cX11_reduced 9 (some .long) 1 [.long v1, .long v2, .int n1] [] (fun r => True) := by
  refine rdl_of2 (by decide) (Nat.le_of_ble_eq_true rfl) ?_
  intro p e s m below meth c A ls H locs hC hK hP hD hA hS hl
  obtain ⟨hx, hb, hr, hml, hown, hts, hlocks, hin⟩ := hC
  have hown : s.vm.findClass RX11 = some m.cls := hown
  have hl : lv_has ls 9 [(0, .long v1), (2, .long v2), (4, .int n1)] := hl
  refine lv_lload_n hx hb dX11_reduced_0 rfl (lv_at hl 0 rfl) ?_
  refine lv_lload_n hx hb dX11_reduced_1 rfl (lv_at hl 1 rfl) ?_
  refine eRl (va_runS (As := [.long v1, .long v2]) (rest := []) ⟨hx, hb, hml, hown, hts⟩ (c_X11_commonDivisor l D cI cB cZ cJ tx v1 v2 H.size) (zS hts k_1106 v_X11_commonDivisor ⟨Nat.le_of_ble_eq_true rfl, Nat.le_of_ble_eq_true rfl⟩) (px0 hK) rfl rfl hl.1 rfl (lv_room (Nat.le_of_ble_eq_true rfl)) dX11_reduced_2 ⟨Nat.le_of_ble_eq_true rfl, Nat.le_of_ble_eq_true rfl⟩) hP hS hA (fun r_1 H locs wr_1 hP hS => ?_)
  refine lv_lstore (lv' := [(5, .long r_1), (0, .long v1), (2, .long v2), (4, .int n1)]) hx hb dX11_reduced_5 hl (by decide) rfl (fun ls hl => ?_)
  refine lv_iload hx hb dX11_reduced_7 (lv_at hl 3 rfl) ?_
  refine lv_if_eq (tgt := 16) hx hb dX11_reduced_9 (by decide) (fun c_2 => ?_) (fun c_2 => ?_)
  · refine lv_lload_n hx hb dX11_reduced_16 rfl (lv_at hl 2 rfl) ?_
    refine lv_lstore (lv' := [(7, .long v2), (5, .long r_1), (0, .long v1), (2, .long v2), (4, .int n1)]) hx hb dX11_reduced_17 hl (by decide) rfl (fun ls hl => ?_)
    refine lv_lload hx hb dX11_reduced_19 (lv_at hl 1 rfl) ?_
    refine lv_lconst (v := 0) hx hb dX11_reduced_21 (by decide) ?_
    refine W.lcmp hx hb dX11_reduced_22 ?_
    refine lv_if_ne (tgt := 31) hx hb dX11_reduced_23 (by decide) (fun c_3 => ?_) (fun c_3 => ?_)
    · refine lv_lload hx hb dX11_reduced_31 (lv_at hl 0 rfl) ?_
      refine lv_lload hx hb dX11_reduced_33 (lv_at hl 1 rfl) ?_
      refine lv_ldiv hx hb dX11_reduced_35 (lf_X11_reduced_4 v1 v2 n1 r_1 c_2 c_3) ?_
      refine lv_topl (fun x_5 _ => ?_)
      exact W.lret (v := x_5) hx hb hr (fun tt9 ht hW => ⟨⟨(x_5 : Int64), (), rfl, (lf_X11_reduced_6 v1 v2 n1 r_1 c_2 c_3 x_5), trivial⟩, hS.F ht⟩) hS.2.2 dX11_reduced_36 hlocks
    · refine lv_lload hx hb dX11_reduced_26 (lv_at hl 0 rfl) ?_
      refine lv_goto (tgt := 36) hx hb dX11_reduced_28 (by decide) ?_
      exact W.lret (v := v2) hx hb hr (fun tt9 ht hW => ⟨⟨(v2 : Int64), (), rfl, (lf_X11_reduced_7 v1 v2 n1 r_1 c_2 c_3), trivial⟩, hS.F ht⟩) hS.2.2 dX11_reduced_36 hlocks
  · refine lv_lload_n hx hb dX11_reduced_12 rfl (lv_at hl 1 rfl) ?_
    refine lv_goto (tgt := 17) hx hb dX11_reduced_13 (by decide) ?_
    refine lv_lstore (lv' := [(7, .long v1), (5, .long r_1), (0, .long v1), (2, .long v2), (4, .int n1)]) hx hb dX11_reduced_17 hl (by decide) rfl (fun ls hl => ?_)
    refine lv_lload hx hb dX11_reduced_19 (lv_at hl 1 rfl) ?_
    refine lv_lconst (v := 0) hx hb dX11_reduced_21 (by decide) ?_
    refine W.lcmp hx hb dX11_reduced_22 ?_
    refine lv_if_ne (tgt := 31) hx hb dX11_reduced_23 (by decide) (fun c_8 => ?_) (fun c_8 => ?_)
    · refine lv_lload hx hb dX11_reduced_31 (lv_at hl 0 rfl) ?_
      refine lv_lload hx hb dX11_reduced_33 (lv_at hl 1 rfl) ?_
      refine lv_ldiv hx hb dX11_reduced_35 (lf_X11_reduced_9 v1 v2 n1 r_1 c_2 c_8) ?_
      refine lv_topl (fun x_10 _ => ?_)
      exact W.lret (v := x_10) hx hb hr (fun tt9 ht hW => ⟨⟨(x_10 : Int64), (), rfl, (lf_X11_reduced_11 v1 v2 n1 r_1 c_2 c_8 x_10), trivial⟩, hS.F ht⟩) hS.2.2 dX11_reduced_36 hlocks
    · refine lv_lload hx hb dX11_reduced_26 (lv_at hl 0 rfl) ?_
      refine lv_goto (tgt := 36) hx hb dX11_reduced_28 (by decide) ?_
      exact W.lret (v := v1) hx hb hr (fun tt9 ht hW => ⟨⟨(v1 : Int64), (), rfl, (lf_X11_reduced_12 v1 v2 n1 r_1 c_2 c_8), trivial⟩, hS.F ht⟩) hS.2.2 dX11_reduced_36 hlocks

theorem lf_X11_pair_3 (a : Nat → Nat) (ap : Int32) (sn : Nat) (sk : Nat) (scu : Int32) (sch : Int32) (ot : Nat → Int32) (n1 : Int32) (n2 : Int32) (hsn : sn ≤ 24) (hsk : sk ≤ 8) (c_2 : (0 : Int32) ≤ n1 ∧ n1 ≤ nI sn - 1) : sn < 2 ^ 31 := by
  omega
theorem lf_X11_pair_6 (a : Nat → Nat) (ap : Int32) (sn : Nat) (sk : Nat) (scu : Int32) (sch : Int32) (ot : Nat → Int32) (n1 : Int32) (n2 : Int32) (hsn : sn ≤ 24) (hsk : sk ≤ 8) (c_2 : (0 : Int32) ≤ n1 ∧ n1 ≤ nI sn - 1) (tn1 : Nat) (tn1a : tn1 < sn) (tn1e : n1 = nI tn1) (c_5 : (0 : Int32) ≤ n2 ∧ n2 ≤ 1) (tn2 : Nat) (tn2a : 0 ≤ tn2) (tn2b : tn2 ≤ 1) (tn2e : n2 = nI tn2) : sn ≤ 24 := by
  first | assumption | omega | decide
theorem lf_X11_pair_7 (a : Nat → Nat) (ap : Int32) (sn : Nat) (sk : Nat) (scu : Int32) (sch : Int32) (ot : Nat → Int32) (n1 : Int32) (n2 : Int32) (hsn : sn ≤ 24) (hsk : sk ≤ 8) (c_2 : (0 : Int32) ≤ n1 ∧ n1 ≤ nI sn - 1) (tn1 : Nat) (tn1a : tn1 < sn) (tn1e : n1 = nI tn1) (c_5 : (0 : Int32) ≤ n2 ∧ n2 ≤ 1) (tn2 : Nat) (tn2a : 0 ≤ tn2) (tn2b : tn2 ≤ 1) (tn2e : n2 = nI tn2) : sk ≤ 8 := by
  first | assumption | omega | decide
theorem lf_X11_pair_10 (a : Nat → Nat) (ap : Int32) (sn : Nat) (sk : Nat) (scu : Int32) (sch : Int32) (ot : Nat → Int32) (n1 : Int32) (n2 : Int32) (hsn : sn ≤ 24) (hsk : sk ≤ 8) (c_2 : (0 : Int32) ≤ n1 ∧ n1 ≤ nI sn - 1) (tn1 : Nat) (tn1a : tn1 < sn) (tn1e : n1 = nI tn1) (c_5 : (0 : Int32) ≤ n2 ∧ n2 ≤ 1) (tn2 : Nat) (tn2a : 0 ≤ tn2) (tn2b : tn2 ≤ 1) (tn2e : n2 = nI tn2) (r_8 : Int32) (c_9 : ¬ r_8 = 0) : sn ≤ 24 := by
  first | assumption | omega | decide
theorem lf_X11_pair_11 (a : Nat → Nat) (ap : Int32) (sn : Nat) (sk : Nat) (scu : Int32) (sch : Int32) (ot : Nat → Int32) (n1 : Int32) (n2 : Int32) (hsn : sn ≤ 24) (hsk : sk ≤ 8) (c_2 : (0 : Int32) ≤ n1 ∧ n1 ≤ nI sn - 1) (tn1 : Nat) (tn1a : tn1 < sn) (tn1e : n1 = nI tn1) (c_5 : (0 : Int32) ≤ n2 ∧ n2 ≤ 1) (tn2 : Nat) (tn2a : 0 ≤ tn2) (tn2b : tn2 ≤ 1) (tn2e : n2 = nI tn2) (r_8 : Int32) (c_9 : ¬ r_8 = 0) : sk ≤ 8 := by
  first | assumption | omega | decide
theorem lf_X11_pair_12 (a : Nat → Nat) (ap : Int32) (sn : Nat) (sk : Nat) (scu : Int32) (sch : Int32) (ot : Nat → Int32) (n1 : Int32) (n2 : Int32) (hsn : sn ≤ 24) (hsk : sk ≤ 8) (c_2 : (0 : Int32) ≤ n1 ∧ n1 ≤ nI sn - 1) (tn1 : Nat) (tn1a : tn1 < sn) (tn1e : n1 = nI tn1) (c_5 : (0 : Int32) ≤ n2 ∧ n2 ≤ 1) (tn2 : Nat) (tn2a : 0 ≤ tn2) (tn2b : tn2 ≤ 1) (tn2e : n2 = nI tn2) (r_8 : Int32) (c_9 : ¬ r_8 = 0) : tn1 < 24 := by
  first | assumption | omega | decide
theorem lf_X11_pair_13 (a : Nat → Nat) (ap : Int32) (sn : Nat) (sk : Nat) (scu : Int32) (sch : Int32) (ot : Nat → Int32) (n1 : Int32) (n2 : Int32) (hsn : sn ≤ 24) (hsk : sk ≤ 8) (c_2 : (0 : Int32) ≤ n1 ∧ n1 ≤ nI sn - 1) (tn1 : Nat) (tn1a : tn1 < sn) (tn1e : n1 = nI tn1) (c_5 : (0 : Int32) ≤ n2 ∧ n2 ≤ 1) (tn2 : Nat) (tn2a : 0 ≤ tn2) (tn2b : tn2 ≤ 1) (tn2e : n2 = nI tn2) (r_8 : Int32) (c_9 : ¬ r_8 = 0) : 0 < 2 := by
  first | assumption | omega | decide
theorem lf_X11_pair_15 (a : Nat → Nat) (ap : Int32) (sn : Nat) (sk : Nat) (scu : Int32) (sch : Int32) (ot : Nat → Int32) (n1 : Int32) (n2 : Int32) (hsn : sn ≤ 24) (hsk : sk ≤ 8) (c_2 : (0 : Int32) ≤ n1 ∧ n1 ≤ nI sn - 1) (tn1 : Nat) (tn1a : tn1 < sn) (tn1e : n1 = nI tn1) (c_5 : (0 : Int32) ≤ n2 ∧ n2 ≤ 1) (tn2 : Nat) (tn2a : 0 ≤ tn2) (tn2b : tn2 ≤ 1) (tn2e : n2 = nI tn2) (r_8 : Int32) (c_9 : ¬ r_8 = 0) (r_14 : Int32) : sn ≤ 24 := by
  first | assumption | omega | decide
theorem lf_X11_pair_16 (a : Nat → Nat) (ap : Int32) (sn : Nat) (sk : Nat) (scu : Int32) (sch : Int32) (ot : Nat → Int32) (n1 : Int32) (n2 : Int32) (hsn : sn ≤ 24) (hsk : sk ≤ 8) (c_2 : (0 : Int32) ≤ n1 ∧ n1 ≤ nI sn - 1) (tn1 : Nat) (tn1a : tn1 < sn) (tn1e : n1 = nI tn1) (c_5 : (0 : Int32) ≤ n2 ∧ n2 ≤ 1) (tn2 : Nat) (tn2a : 0 ≤ tn2) (tn2b : tn2 ≤ 1) (tn2e : n2 = nI tn2) (r_8 : Int32) (c_9 : ¬ r_8 = 0) (r_14 : Int32) : sk ≤ 8 := by
  first | assumption | omega | decide
theorem lf_X11_pair_17 (a : Nat → Nat) (ap : Int32) (sn : Nat) (sk : Nat) (scu : Int32) (sch : Int32) (ot : Nat → Int32) (n1 : Int32) (n2 : Int32) (hsn : sn ≤ 24) (hsk : sk ≤ 8) (c_2 : (0 : Int32) ≤ n1 ∧ n1 ≤ nI sn - 1) (tn1 : Nat) (tn1a : tn1 < sn) (tn1e : n1 = nI tn1) (c_5 : (0 : Int32) ≤ n2 ∧ n2 ≤ 1) (tn2 : Nat) (tn2a : 0 ≤ tn2) (tn2b : tn2 ≤ 1) (tn2e : n2 = nI tn2) (r_8 : Int32) (c_9 : ¬ r_8 = 0) (r_14 : Int32) : tn1 < 24 := by
  first | assumption | omega | decide
theorem lf_X11_pair_18 (a : Nat → Nat) (ap : Int32) (sn : Nat) (sk : Nat) (scu : Int32) (sch : Int32) (ot : Nat → Int32) (n1 : Int32) (n2 : Int32) (hsn : sn ≤ 24) (hsk : sk ≤ 8) (c_2 : (0 : Int32) ≤ n1 ∧ n1 ≤ nI sn - 1) (tn1 : Nat) (tn1a : tn1 < sn) (tn1e : n1 = nI tn1) (c_5 : (0 : Int32) ≤ n2 ∧ n2 ≤ 1) (tn2 : Nat) (tn2a : 0 ≤ tn2) (tn2b : tn2 ≤ 1) (tn2e : n2 = nI tn2) (r_8 : Int32) (c_9 : ¬ r_8 = 0) (r_14 : Int32) : 1 < 2 := by
  first | assumption | omega | decide
theorem lf_X11_pair_21 (a : Nat → Nat) (ap : Int32) (sn : Nat) (sk : Nat) (scu : Int32) (sch : Int32) (ot : Nat → Int32) (n1 : Int32) (n2 : Int32) (hsn : sn ≤ 24) (hsk : sk ≤ 8) (c_2 : (0 : Int32) ≤ n1 ∧ n1 ≤ nI sn - 1) (tn1 : Nat) (tn1a : tn1 < sn) (tn1e : n1 = nI tn1) (c_5 : (0 : Int32) ≤ n2 ∧ n2 ≤ 1) (tn2 : Nat) (tn2a : 0 ≤ tn2) (tn2b : tn2 ≤ 1) (tn2e : n2 = nI tn2) (r_8 : Int32) (c_9 : ¬ r_8 = 0) (r_14 : Int32) (r_19 : Int32) (x_20 : Int64) (ex_20 : x_20 = r_14.toInt64 * r_19.toInt64) : sn ≤ 24 := by
  first | assumption | omega | decide
theorem lf_X11_pair_22 (a : Nat → Nat) (ap : Int32) (sn : Nat) (sk : Nat) (scu : Int32) (sch : Int32) (ot : Nat → Int32) (n1 : Int32) (n2 : Int32) (hsn : sn ≤ 24) (hsk : sk ≤ 8) (c_2 : (0 : Int32) ≤ n1 ∧ n1 ≤ nI sn - 1) (tn1 : Nat) (tn1a : tn1 < sn) (tn1e : n1 = nI tn1) (c_5 : (0 : Int32) ≤ n2 ∧ n2 ≤ 1) (tn2 : Nat) (tn2a : 0 ≤ tn2) (tn2b : tn2 ≤ 1) (tn2e : n2 = nI tn2) (r_8 : Int32) (c_9 : ¬ r_8 = 0) (r_14 : Int32) (r_19 : Int32) (x_20 : Int64) (ex_20 : x_20 = r_14.toInt64 * r_19.toInt64) : sk ≤ 8 := by
  first | assumption | omega | decide
theorem lf_X11_pair_23 (a : Nat → Nat) (ap : Int32) (sn : Nat) (sk : Nat) (scu : Int32) (sch : Int32) (ot : Nat → Int32) (n1 : Int32) (n2 : Int32) (hsn : sn ≤ 24) (hsk : sk ≤ 8) (c_2 : (0 : Int32) ≤ n1 ∧ n1 ≤ nI sn - 1) (tn1 : Nat) (tn1a : tn1 < sn) (tn1e : n1 = nI tn1) (c_5 : (0 : Int32) ≤ n2 ∧ n2 ≤ 1) (tn2 : Nat) (tn2a : 0 ≤ tn2) (tn2b : tn2 ≤ 1) (tn2e : n2 = nI tn2) (r_8 : Int32) (c_9 : ¬ r_8 = 0) (r_14 : Int32) (r_19 : Int32) (x_20 : Int64) (ex_20 : x_20 = r_14.toInt64 * r_19.toInt64) : tn1 < 24 := by
  first | assumption | omega | decide
theorem lf_X11_pair_24 (a : Nat → Nat) (ap : Int32) (sn : Nat) (sk : Nat) (scu : Int32) (sch : Int32) (ot : Nat → Int32) (n1 : Int32) (n2 : Int32) (hsn : sn ≤ 24) (hsk : sk ≤ 8) (c_2 : (0 : Int32) ≤ n1 ∧ n1 ≤ nI sn - 1) (tn1 : Nat) (tn1a : tn1 < sn) (tn1e : n1 = nI tn1) (c_5 : (0 : Int32) ≤ n2 ∧ n2 ≤ 1) (tn2 : Nat) (tn2a : 0 ≤ tn2) (tn2b : tn2 ≤ 1) (tn2e : n2 = nI tn2) (r_8 : Int32) (c_9 : ¬ r_8 = 0) (r_14 : Int32) (r_19 : Int32) (x_20 : Int64) (ex_20 : x_20 = r_14.toInt64 * r_19.toInt64) : 0 < 2 := by
  first | assumption | omega | decide
theorem lf_X11_pair_26 (a : Nat → Nat) (ap : Int32) (sn : Nat) (sk : Nat) (scu : Int32) (sch : Int32) (ot : Nat → Int32) (n1 : Int32) (n2 : Int32) (hsn : sn ≤ 24) (hsk : sk ≤ 8) (c_2 : (0 : Int32) ≤ n1 ∧ n1 ≤ nI sn - 1) (tn1 : Nat) (tn1a : tn1 < sn) (tn1e : n1 = nI tn1) (c_5 : (0 : Int32) ≤ n2 ∧ n2 ≤ 1) (tn2 : Nat) (tn2a : 0 ≤ tn2) (tn2b : tn2 ≤ 1) (tn2e : n2 = nI tn2) (r_8 : Int32) (c_9 : ¬ r_8 = 0) (r_14 : Int32) (r_19 : Int32) (x_20 : Int64) (ex_20 : x_20 = r_14.toInt64 * r_19.toInt64) (r_25 : Int32) : sn ≤ 24 := by
  first | assumption | omega | decide
theorem lf_X11_pair_27 (a : Nat → Nat) (ap : Int32) (sn : Nat) (sk : Nat) (scu : Int32) (sch : Int32) (ot : Nat → Int32) (n1 : Int32) (n2 : Int32) (hsn : sn ≤ 24) (hsk : sk ≤ 8) (c_2 : (0 : Int32) ≤ n1 ∧ n1 ≤ nI sn - 1) (tn1 : Nat) (tn1a : tn1 < sn) (tn1e : n1 = nI tn1) (c_5 : (0 : Int32) ≤ n2 ∧ n2 ≤ 1) (tn2 : Nat) (tn2a : 0 ≤ tn2) (tn2b : tn2 ≤ 1) (tn2e : n2 = nI tn2) (r_8 : Int32) (c_9 : ¬ r_8 = 0) (r_14 : Int32) (r_19 : Int32) (x_20 : Int64) (ex_20 : x_20 = r_14.toInt64 * r_19.toInt64) (r_25 : Int32) : sk ≤ 8 := by
  first | assumption | omega | decide
theorem lf_X11_pair_28 (a : Nat → Nat) (ap : Int32) (sn : Nat) (sk : Nat) (scu : Int32) (sch : Int32) (ot : Nat → Int32) (n1 : Int32) (n2 : Int32) (hsn : sn ≤ 24) (hsk : sk ≤ 8) (c_2 : (0 : Int32) ≤ n1 ∧ n1 ≤ nI sn - 1) (tn1 : Nat) (tn1a : tn1 < sn) (tn1e : n1 = nI tn1) (c_5 : (0 : Int32) ≤ n2 ∧ n2 ≤ 1) (tn2 : Nat) (tn2a : 0 ≤ tn2) (tn2b : tn2 ≤ 1) (tn2e : n2 = nI tn2) (r_8 : Int32) (c_9 : ¬ r_8 = 0) (r_14 : Int32) (r_19 : Int32) (x_20 : Int64) (ex_20 : x_20 = r_14.toInt64 * r_19.toInt64) (r_25 : Int32) : tn1 < 24 := by
  first | assumption | omega | decide
theorem lf_X11_pair_29 (a : Nat → Nat) (ap : Int32) (sn : Nat) (sk : Nat) (scu : Int32) (sch : Int32) (ot : Nat → Int32) (n1 : Int32) (n2 : Int32) (hsn : sn ≤ 24) (hsk : sk ≤ 8) (c_2 : (0 : Int32) ≤ n1 ∧ n1 ≤ nI sn - 1) (tn1 : Nat) (tn1a : tn1 < sn) (tn1e : n1 = nI tn1) (c_5 : (0 : Int32) ≤ n2 ∧ n2 ≤ 1) (tn2 : Nat) (tn2a : 0 ≤ tn2) (tn2b : tn2 ≤ 1) (tn2e : n2 = nI tn2) (r_8 : Int32) (c_9 : ¬ r_8 = 0) (r_14 : Int32) (r_19 : Int32) (x_20 : Int64) (ex_20 : x_20 = r_14.toInt64 * r_19.toInt64) (r_25 : Int32) : 1 < 2 := by
  first | assumption | omega | decide
theorem lf_X11_pair_34 (a : Nat → Nat) (ap : Int32) (sn : Nat) (sk : Nat) (scu : Int32) (sch : Int32) (ot : Nat → Int32) (n1 : Int32) (n2 : Int32) (hsn : sn ≤ 24) (hsk : sk ≤ 8) (c_2 : (0 : Int32) ≤ n1 ∧ n1 ≤ nI sn - 1) (tn1 : Nat) (tn1a : tn1 < sn) (tn1e : n1 = nI tn1) (c_5 : (0 : Int32) ≤ n2 ∧ n2 ≤ 1) (tn2 : Nat) (tn2a : 0 ≤ tn2) (tn2b : tn2 ≤ 1) (tn2e : n2 = nI tn2) (r_8 : Int32) (c_9 : ¬ r_8 = 0) (r_14 : Int32) (r_19 : Int32) (x_20 : Int64) (ex_20 : x_20 = r_14.toInt64 * r_19.toInt64) (r_25 : Int32) (r_30 : Int32) (x_31 : Int64) (ex_31 : x_31 = r_25.toInt64 * r_30.toInt64) (c_32 : ¬ nI tn2 = 0) : tn2 ≠ 0 := by
  exact fun q => c_32 ((nI_eq (a := tn2) (b := 0) (by omega) (by omega)).mpr q)
theorem lf_X11_pair_37 (a : Nat → Nat) (ap : Int32) (sn : Nat) (sk : Nat) (scu : Int32) (sch : Int32) (ot : Nat → Int32) (n1 : Int32) (n2 : Int32) (hsn : sn ≤ 24) (hsk : sk ≤ 8) (c_2 : (0 : Int32) ≤ n1 ∧ n1 ≤ nI sn - 1) (tn1 : Nat) (tn1a : tn1 < sn) (tn1e : n1 = nI tn1) (c_5 : (0 : Int32) ≤ n2 ∧ n2 ≤ 1) (tn2 : Nat) (tn2a : 0 ≤ tn2) (tn2b : tn2 ≤ 1) (tn2e : n2 = nI tn2) (r_8 : Int32) (c_9 : ¬ r_8 = 0) (r_14 : Int32) (r_19 : Int32) (x_20 : Int64) (ex_20 : x_20 = r_14.toInt64 * r_19.toInt64) (r_25 : Int32) (r_30 : Int32) (x_31 : Int64) (ex_31 : x_31 = r_25.toInt64 * r_30.toInt64) (c_32 : nI tn2 = 0) : tn2 = 0 := by
  exact (nI_eq (a := tn2) (b := 0) (by omega) (by omega)).mp c_32
set_option maxHeartbeats 4000000 in
set_option maxRecDepth 100000 in
theorem c_X11_pair (l : Launch) (D : va_G) (cI cB cZ cJ : ClassId) (tx : List (ClassId × FieldType)) (a : Nat → Nat) (ap : Int32) (sn : Nat) (sk : Nat) (scu : Int32) (sch : Int32) (ot : Nat → Int32) (n1 : Int32) (n2 : Int32) (hsn : sn ≤ 24) (hsk : sk ≤ 8) : RdL l D cI cB cZ cJ tx yX11_pair cX11_pair 7 (some .long) 5 [.ref (a 0), .int n1, .int n2] [(a 0, .inr (11, [.ref (a 1), .ref (a 2), .ref (a 3), .ref (a 4), .ref (a 5), .ref (a 6), .ref (a 7), .ref (a 8), .ref (a 9), .ref (a 10), .ref (a 11), .ref (a 12), .int ap])), (a 10, .inr (10, [.ref (a 5), .ref (a 46)])), (a 5, .inr (4, [.ref (a 18), .ref (a 19), .ref (a 20), .ref (a 21), .ref (a 22), .ref (a 23), .ref (a 24), .int (nI sn), .int (nI sk), .int scu, .int sch])), (a 46, .inl (cI, 48, .inl ot))] (fun r => True) := by
  refine rdl_of2 (by decide) (Nat.le_of_ble_eq_true rfl) ?_
  intro p e s m below meth c A ls H locs hC hK hP hD hA hS hl
  obtain ⟨hx, hb, hr, hml, hown, hts, hlocks, hin⟩ := hC
  have hown : s.vm.findClass RX11 = some m.cls := hown
  have hl : lv_has ls 7 [(0, .ref (a 0)), (1, .int n1), (2, .int n2)] := hl
  refine lv_iload_n hx hb dX11_pair_0 rfl (lv_at hl 1 rfl) ?_
  refine lv_iconst (v := 0) hx hb dX11_pair_1 (by decide) ?_
  refine lv_aload_n hx hb dX11_pair_2 rfl (lv_at hl 0 rfl) ?_
  refine va_get (D := D) (ci := 11) (v := .ref (a 5)) (C := RX11) (T := TX11) (N := 13) hx hb hts inT_X11 hown hK.1 hP 0 rfl rfl 4 (by decide) (hts _ k_487) (fun _ h9 => h9) rfl dX11_pair_3 ?_
  refine va_getN (D := D) (ci := 4) (v := .int (nI sn)) (C := RX4) (T := TX4) (N := 11) hx hb hts inT_X4 hown hK.1 hP 2 rfl rfl 7 (by decide) (va_Nw.use rfl (hK.2.2.1 _ n_254)) (fun _ h9 => h9) rfl dX11_pair_6 ?_
  refine lv_iconst (v := 1) hx hb dX11_pair_9 (by decide) ?_
  refine lv_isub hx hb dX11_pair_10 ?_
  refine eRi (va_runS (As := [.int n1, .int 0, .int (nI sn - 1)]) (rest := []) ⟨hx, hb, hml, hown, hts⟩ (c_X11_within l D cI cB cZ cJ tx n1 0 (nI sn - 1) H.size) (zS hts k_527 v_X11_within ⟨Nat.le_of_ble_eq_true rfl, Nat.le_of_ble_eq_true rfl⟩) (px0 hK) rfl rfl hl.1 rfl (lv_room (Nat.le_of_ble_eq_true rfl)) dX11_pair_11 ⟨Nat.le_of_ble_eq_true rfl, Nat.le_of_ble_eq_true rfl⟩) hP hS hA (fun r_1 H locs wr_1 hP hS => ?_)
  subst wr_1
  refine lv_bi_eq (tgt := 26) hx hb dX11_pair_14 (by decide) (fun c_2 => ?_) (fun c_2 => ?_)
  · refine lv_ldc2 (v := (-1)) hx hb hown (hts _ k_1074) dX11_pair_26 ?_
    exact W.lret (v := (-1)) hx hb hr (fun tt9 ht hW => ⟨⟨((-1) : Int64), (), rfl, trivial, trivial⟩, hS.F ht⟩) hS.2.2 dX11_pair_29 hlocks
  · obtain ⟨tn1, tn1a, tn1e⟩ := of_within (lf_X11_pair_3 a ap sn sk scu sch ot n1 n2 hsn hsk c_2) c_2
    subst tn1e
    refine lv_iload_n hx hb dX11_pair_17 rfl (lv_at hl 2 rfl) ?_
    refine lv_iconst (v := 0) hx hb dX11_pair_18 (by decide) ?_
    refine lv_iconst (v := 1) hx hb dX11_pair_19 (by decide) ?_
    refine eRi (va_runS (As := [.int n2, .int 0, .int 1]) (rest := []) ⟨hx, hb, hml, hown, hts⟩ (c_X11_within l D cI cB cZ cJ tx n2 0 1 H.size) (zS hts k_527 v_X11_within ⟨Nat.le_of_ble_eq_true rfl, Nat.le_of_ble_eq_true rfl⟩) (px0 hK) rfl rfl hl.1 rfl (lv_room (Nat.le_of_ble_eq_true rfl)) dX11_pair_20 ⟨Nat.le_of_ble_eq_true rfl, Nat.le_of_ble_eq_true rfl⟩) hP hS hA (fun r_4 H locs wr_4 hP hS => ?_)
    subst wr_4
    refine lv_bi_ne (tgt := 30) hx hb dX11_pair_23 (by decide) (fun c_5 => ?_) (fun c_5 => ?_)
    · obtain ⟨tn2, tn2a, tn2b, tn2e⟩ := of_rng 0 1 rfl rfl c_5
      subst tn2e
      refine lv_aload_n hx hb dX11_pair_30 rfl (lv_at hl 0 rfl) ?_
      refine va_get (D := D) (ci := 11) (v := .ref (a 10)) (C := RX11) (T := TX11) (N := 13) hx hb hts inT_X11 hown hK.1 hP 0 rfl rfl 9 (by decide) (hts _ k_492) (fun _ h9 => h9) rfl dX11_pair_31 ?_
      refine eRi (va_runV (As := []) (rest := []) ⟨hx, hb, hml, hown, hts⟩ (c_X10_known l D cI cB cZ cJ tx a sn sk scu sch ot (lf_X11_pair_6 a ap sn sk scu sch ot (nI tn1) (nI tn2) hsn hsk c_2 tn1 tn1a rfl c_5 tn2 tn2a tn2b rfl) (lf_X11_pair_7 a ap sn sk scu sch ot (nI tn1) (nI tn2) hsn hsk c_2 tn1 tn1a rfl c_5 tn2 tn2a tn2b rfl) H.size) (zV hts k_1138 v_X10_known ⟨Nat.le_of_ble_eq_true rfl, Nat.le_of_ble_eq_true rfl⟩) (pV (pxS hK hP hD [1, 2, 3] (by decide) rfl) hK hP 1 rfl rfl) rfl rfl hl.1 rfl (lv_room (Nat.le_of_ble_eq_true rfl)) dX11_pair_34 ⟨Nat.le_of_ble_eq_true rfl, Nat.le_of_ble_eq_true rfl⟩) hP hS hA (fun r_8 H locs wr_8 hP hS => ?_)
      refine lv_if_ne (tgt := 44) hx hb dX11_pair_37 (by decide) (fun c_9 => ?_) (fun c_9 => ?_)
      · refine lv_aload_n hx hb dX11_pair_44 rfl (lv_at hl 0 rfl) ?_
        refine va_get (D := D) (ci := 11) (v := .ref (a 10)) (C := RX11) (T := TX11) (N := 13) hx hb hts inT_X11 hown hK.1 hP 0 rfl rfl 9 (by decide) (hts _ k_492) (fun _ h9 => h9) rfl dX11_pair_45 ?_
        refine lv_iload_n hx hb dX11_pair_48 rfl (lv_at hl 1 rfl) ?_
        refine lv_iconst (v := 0) hx hb dX11_pair_49 (by decide) ?_
        refine eRi (va_runV (As := [.int (nI tn1), .int 0]) (rest := []) ⟨hx, hb, hml, hown, hts⟩ (c_X10_above l D cI cB cZ cJ tx a sn sk scu sch ot tn1 0 (lf_X11_pair_10 a ap sn sk scu sch ot (nI tn1) (nI tn2) hsn hsk c_2 tn1 tn1a rfl c_5 tn2 tn2a tn2b rfl r_8 c_9) (lf_X11_pair_11 a ap sn sk scu sch ot (nI tn1) (nI tn2) hsn hsk c_2 tn1 tn1a rfl c_5 tn2 tn2a tn2b rfl r_8 c_9) (lf_X11_pair_12 a ap sn sk scu sch ot (nI tn1) (nI tn2) hsn hsk c_2 tn1 tn1a rfl c_5 tn2 tn2a tn2b rfl r_8 c_9) (lf_X11_pair_13 a ap sn sk scu sch ot (nI tn1) (nI tn2) hsn hsk c_2 tn1 tn1a rfl c_5 tn2 tn2a tn2b rfl r_8 c_9) H.size) (zV hts k_1155 v_X10_above ⟨Nat.le_of_ble_eq_true rfl, Nat.le_of_ble_eq_true rfl⟩) (pV (pxS hK hP hD [1, 2, 3] (by decide) rfl) hK hP 1 rfl rfl) rfl rfl hl.1 rfl (lv_room (Nat.le_of_ble_eq_true rfl)) dX11_pair_50 ⟨Nat.le_of_ble_eq_true rfl, Nat.le_of_ble_eq_true rfl⟩) hP hS hA (fun r_14 H locs wr_14 hP hS => ?_)
        refine lv_i2l (v := r_14.toInt64) hx hb dX11_pair_53 rfl ?_
        refine lv_aload_n hx hb dX11_pair_54 rfl (lv_at hl 0 rfl) ?_
        refine va_get (D := D) (ci := 11) (v := .ref (a 10)) (C := RX11) (T := TX11) (N := 13) hx hb hts inT_X11 hown hK.1 hP 0 rfl rfl 9 (by decide) (hts _ k_492) (fun _ h9 => h9) rfl dX11_pair_55 ?_
        refine lv_iload_n hx hb dX11_pair_58 rfl (lv_at hl 1 rfl) ?_
        refine lv_iconst (v := 1) hx hb dX11_pair_59 (by decide) ?_
        refine eRi (va_runV (As := [.int (nI tn1), .int 1]) (rest := [.long r_14.toInt64]) ⟨hx, hb, hml, hown, hts⟩ (c_X10_above l D cI cB cZ cJ tx a sn sk scu sch ot tn1 1 (lf_X11_pair_15 a ap sn sk scu sch ot (nI tn1) (nI tn2) hsn hsk c_2 tn1 tn1a rfl c_5 tn2 tn2a tn2b rfl r_8 c_9 r_14) (lf_X11_pair_16 a ap sn sk scu sch ot (nI tn1) (nI tn2) hsn hsk c_2 tn1 tn1a rfl c_5 tn2 tn2a tn2b rfl r_8 c_9 r_14) (lf_X11_pair_17 a ap sn sk scu sch ot (nI tn1) (nI tn2) hsn hsk c_2 tn1 tn1a rfl c_5 tn2 tn2a tn2b rfl r_8 c_9 r_14) (lf_X11_pair_18 a ap sn sk scu sch ot (nI tn1) (nI tn2) hsn hsk c_2 tn1 tn1a rfl c_5 tn2 tn2a tn2b rfl r_8 c_9 r_14) H.size) (zV hts k_1155 v_X10_above ⟨Nat.le_of_ble_eq_true rfl, Nat.le_of_ble_eq_true rfl⟩) (pV (pxS hK hP hD [1, 2, 3] (by decide) rfl) hK hP 1 rfl rfl) rfl rfl hl.1 rfl (lv_room (Nat.le_of_ble_eq_true rfl)) dX11_pair_60 ⟨Nat.le_of_ble_eq_true rfl, Nat.le_of_ble_eq_true rfl⟩) hP hS hA (fun r_19 H locs wr_19 hP hS => ?_)
        refine lv_i2l (v := r_19.toInt64) hx hb dX11_pair_63 rfl ?_
        refine lv_lmul hx hb dX11_pair_64 ?_
        refine lv_topl (fun x_20 ex_20 => ?_)
        refine lv_lstore_n (lv' := [(3, .long x_20), (0, .ref (a 0)), (1, .int (nI tn1)), (2, .int (nI tn2))]) hx hb dX11_pair_65 rfl hl (by decide) rfl (fun ls hl => ?_)
        refine lv_aload_n hx hb dX11_pair_66 rfl (lv_at hl 1 rfl) ?_
        refine va_get (D := D) (ci := 11) (v := .ref (a 10)) (C := RX11) (T := TX11) (N := 13) hx hb hts inT_X11 hown hK.1 hP 0 rfl rfl 9 (by decide) (hts _ k_492) (fun _ h9 => h9) rfl dX11_pair_67 ?_
        refine lv_iload_n hx hb dX11_pair_70 rfl (lv_at hl 2 rfl) ?_
        refine lv_iconst (v := 0) hx hb dX11_pair_71 (by decide) ?_
        refine eRi (va_runV (As := [.int (nI tn1), .int 0]) (rest := []) ⟨hx, hb, hml, hown, hts⟩ (c_X10_below l D cI cB cZ cJ tx a sn sk scu sch ot tn1 0 (lf_X11_pair_21 a ap sn sk scu sch ot (nI tn1) (nI tn2) hsn hsk c_2 tn1 tn1a rfl c_5 tn2 tn2a tn2b rfl r_8 c_9 r_14 r_19 x_20 ex_20) (lf_X11_pair_22 a ap sn sk scu sch ot (nI tn1) (nI tn2) hsn hsk c_2 tn1 tn1a rfl c_5 tn2 tn2a tn2b rfl r_8 c_9 r_14 r_19 x_20 ex_20) (lf_X11_pair_23 a ap sn sk scu sch ot (nI tn1) (nI tn2) hsn hsk c_2 tn1 tn1a rfl c_5 tn2 tn2a tn2b rfl r_8 c_9 r_14 r_19 x_20 ex_20) (lf_X11_pair_24 a ap sn sk scu sch ot (nI tn1) (nI tn2) hsn hsk c_2 tn1 tn1a rfl c_5 tn2 tn2a tn2b rfl r_8 c_9 r_14 r_19 x_20 ex_20) H.size) (zV hts k_1160 v_X10_below ⟨Nat.le_of_ble_eq_true rfl, Nat.le_of_ble_eq_true rfl⟩) (pV (pxS hK hP hD [1, 2, 3] (by decide) rfl) hK hP 1 rfl rfl) rfl rfl hl.1 rfl (lv_room (Nat.le_of_ble_eq_true rfl)) dX11_pair_72 ⟨Nat.le_of_ble_eq_true rfl, Nat.le_of_ble_eq_true rfl⟩) hP hS hA (fun r_25 H locs wr_25 hP hS => ?_)
        refine lv_i2l (v := r_25.toInt64) hx hb dX11_pair_75 rfl ?_
        refine lv_aload_n hx hb dX11_pair_76 rfl (lv_at hl 1 rfl) ?_
        refine va_get (D := D) (ci := 11) (v := .ref (a 10)) (C := RX11) (T := TX11) (N := 13) hx hb hts inT_X11 hown hK.1 hP 0 rfl rfl 9 (by decide) (hts _ k_492) (fun _ h9 => h9) rfl dX11_pair_77 ?_
        refine lv_iload_n hx hb dX11_pair_80 rfl (lv_at hl 2 rfl) ?_
        refine lv_iconst (v := 1) hx hb dX11_pair_81 (by decide) ?_
        refine eRi (va_runV (As := [.int (nI tn1), .int 1]) (rest := [.long r_25.toInt64]) ⟨hx, hb, hml, hown, hts⟩ (c_X10_below l D cI cB cZ cJ tx a sn sk scu sch ot tn1 1 (lf_X11_pair_26 a ap sn sk scu sch ot (nI tn1) (nI tn2) hsn hsk c_2 tn1 tn1a rfl c_5 tn2 tn2a tn2b rfl r_8 c_9 r_14 r_19 x_20 ex_20 r_25) (lf_X11_pair_27 a ap sn sk scu sch ot (nI tn1) (nI tn2) hsn hsk c_2 tn1 tn1a rfl c_5 tn2 tn2a tn2b rfl r_8 c_9 r_14 r_19 x_20 ex_20 r_25) (lf_X11_pair_28 a ap sn sk scu sch ot (nI tn1) (nI tn2) hsn hsk c_2 tn1 tn1a rfl c_5 tn2 tn2a tn2b rfl r_8 c_9 r_14 r_19 x_20 ex_20 r_25) (lf_X11_pair_29 a ap sn sk scu sch ot (nI tn1) (nI tn2) hsn hsk c_2 tn1 tn1a rfl c_5 tn2 tn2a tn2b rfl r_8 c_9 r_14 r_19 x_20 ex_20 r_25) H.size) (zV hts k_1160 v_X10_below ⟨Nat.le_of_ble_eq_true rfl, Nat.le_of_ble_eq_true rfl⟩) (pV (pxS hK hP hD [1, 2, 3] (by decide) rfl) hK hP 1 rfl rfl) rfl rfl hl.1 rfl (lv_room (Nat.le_of_ble_eq_true rfl)) dX11_pair_82 ⟨Nat.le_of_ble_eq_true rfl, Nat.le_of_ble_eq_true rfl⟩) hP hS hA (fun r_30 H locs wr_30 hP hS => ?_)
        refine lv_i2l (v := r_30.toInt64) hx hb dX11_pair_85 rfl ?_
        refine lv_lmul hx hb dX11_pair_86 ?_
        refine lv_topl (fun x_31 ex_31 => ?_)
        refine lv_lstore (lv' := [(5, .long x_31), (3, .long x_20), (0, .ref (a 0)), (1, .int (nI tn1)), (2, .int (nI tn2))]) hx hb dX11_pair_87 hl (by decide) rfl (fun ls hl => ?_)
        refine lv_lload_n hx hb dX11_pair_89 rfl (lv_at hl 1 rfl) ?_
        refine lv_lload hx hb dX11_pair_90 (lv_at hl 0 rfl) ?_
        refine lv_iload_n hx hb dX11_pair_92 rfl (lv_at hl 4 rfl) ?_
        refine lv_if_ne (tgt := 100) hx hb dX11_pair_93 (by decide) (fun c_32 => ?_) (fun c_32 => ?_)
        · have n_33 : tn2 ≠ 0 := (lf_X11_pair_34 a ap sn sk scu sch ot (nI tn1) (nI tn2) hsn hsk c_2 tn1 tn1a rfl c_5 tn2 tn2a tn2b rfl r_8 c_9 r_14 r_19 x_20 ex_20 r_25 r_30 x_31 ex_31 c_32)
          refine lv_iconst (v := 0) hx hb dX11_pair_100 (by decide) ?_
          refine eRl (va_runS (As := [.long x_20, .long x_31, .int 0]) (rest := []) ⟨hx, hb, hml, hown, hts⟩ (c_X11_reduced l D cI cB cZ cJ tx x_20 x_31 0 H.size) (zS hts k_1103 v_X11_reduced ⟨Nat.le_of_ble_eq_true rfl, Nat.le_of_ble_eq_true rfl⟩) (px0 hK) rfl rfl hl.1 rfl (lv_room (Nat.le_of_ble_eq_true rfl)) dX11_pair_101 ⟨Nat.le_of_ble_eq_true rfl, Nat.le_of_ble_eq_true rfl⟩) hP hS hA (fun r_35 H locs wr_35 hP hS => ?_)
          exact W.lret (v := r_35) hx hb hr (fun tt9 ht hW => ⟨⟨(r_35 : Int64), (), rfl, trivial, trivial⟩, hS.F ht⟩) hS.2.2 dX11_pair_104 hlocks
        · have n_36 : tn2 = 0 := (lf_X11_pair_37 a ap sn sk scu sch ot (nI tn1) (nI tn2) hsn hsk c_2 tn1 tn1a rfl c_5 tn2 tn2a tn2b rfl r_8 c_9 r_14 r_19 x_20 ex_20 r_25 r_30 x_31 ex_31 c_32)
          refine lv_iconst (v := 1) hx hb dX11_pair_96 (by decide) ?_
          refine lv_goto (tgt := 101) hx hb dX11_pair_97 (by decide) ?_
          refine eRl (va_runS (As := [.long x_20, .long x_31, .int 1]) (rest := []) ⟨hx, hb, hml, hown, hts⟩ (c_X11_reduced l D cI cB cZ cJ tx x_20 x_31 1 H.size) (zS hts k_1103 v_X11_reduced ⟨Nat.le_of_ble_eq_true rfl, Nat.le_of_ble_eq_true rfl⟩) (px0 hK) rfl rfl hl.1 rfl (lv_room (Nat.le_of_ble_eq_true rfl)) dX11_pair_101 ⟨Nat.le_of_ble_eq_true rfl, Nat.le_of_ble_eq_true rfl⟩) hP hS hA (fun r_38 H locs wr_38 hP hS => ?_)
          exact W.lret (v := r_38) hx hb hr (fun tt9 ht hW => ⟨⟨(r_38 : Int64), (), rfl, trivial, trivial⟩, hS.F ht⟩) hS.2.2 dX11_pair_104 hlocks
      · refine lv_ldc2 (v := (-2)) hx hb hown (hts _ k_1154) dX11_pair_40 ?_
        exact W.lret (v := (-2)) hx hb hr (fun tt9 ht hW => ⟨⟨((-2) : Int64), (), rfl, trivial, trivial⟩, hS.F ht⟩) hS.2.2 dX11_pair_43 hlocks
    · refine lv_ldc2 (v := (-1)) hx hb hown (hts _ k_1074) dX11_pair_26 ?_
      exact W.lret (v := (-1)) hx hb hr (fun tt9 ht hW => ⟨⟨((-1) : Int64), (), rfl, trivial, trivial⟩, hS.F ht⟩) hS.2.2 dX11_pair_29 hlocks

theorem lf_X11_feed_3 (a : Nat → Nat) (ap : Int32) (tu : Nat) (tb : Nat → Int32) (n1 : Int32) (n2 : Int32) (n3 : Int32) (n4 : Int32) (n5 : Int32) (htu : tu ≤ 220) (r_1 : Int32) (c_2 : ¬ r_1 = 0) : tu ≤ 220 := by
  first | assumption | omega | decide
theorem lf_X11_feed_6 (a : Nat → Nat) (ap : Int32) (tu : Nat) (tb : Nat → Int32) (n1 : Int32) (n2 : Int32) (n3 : Int32) (n4 : Int32) (n5 : Int32) (htu : tu ≤ 220) (r_1 : Int32) (c_2 : ¬ r_1 = 0) (tu_5 : Nat) (tb_5 : Nat → Int32) (hz_5_0 : tu_5 ≤ 220) : tu_5 ≤ 220 := by
  first | assumption | omega | decide
theorem lf_X11_feed_9 (a : Nat → Nat) (ap : Int32) (tu : Nat) (tb : Nat → Int32) (n1 : Int32) (n2 : Int32) (n3 : Int32) (n4 : Int32) (n5 : Int32) (htu : tu ≤ 220) (r_1 : Int32) (c_2 : ¬ r_1 = 0) (tu_5 : Nat) (tb_5 : Nat → Int32) (hz_5_0 : tu_5 ≤ 220) (tu_8 : Nat) (tb_8 : Nat → Int32) (hz_8_0 : tu_8 ≤ 220) : tu_8 ≤ 220 := by
  first | assumption | omega | decide
theorem lf_X11_feed_12 (a : Nat → Nat) (ap : Int32) (tu : Nat) (tb : Nat → Int32) (n1 : Int32) (n2 : Int32) (n3 : Int32) (n4 : Int32) (n5 : Int32) (htu : tu ≤ 220) (r_1 : Int32) (c_2 : ¬ r_1 = 0) (tu_5 : Nat) (tb_5 : Nat → Int32) (hz_5_0 : tu_5 ≤ 220) (tu_8 : Nat) (tb_8 : Nat → Int32) (hz_8_0 : tu_8 ≤ 220) (tu_11 : Nat) (tb_11 : Nat → Int32) (hz_11_0 : tu_11 ≤ 220) : tu_11 ≤ 220 := by
  first | assumption | omega | decide
theorem lf_X11_feed_15 (a : Nat → Nat) (ap : Int32) (tu : Nat) (tb : Nat → Int32) (n1 : Int32) (n2 : Int32) (n3 : Int32) (n4 : Int32) (n5 : Int32) (htu : tu ≤ 220) (r_1 : Int32) (c_2 : ¬ r_1 = 0) (tu_5 : Nat) (tb_5 : Nat → Int32) (hz_5_0 : tu_5 ≤ 220) (tu_8 : Nat) (tb_8 : Nat → Int32) (hz_8_0 : tu_8 ≤ 220) (tu_11 : Nat) (tb_11 : Nat → Int32) (hz_11_0 : tu_11 ≤ 220) (tu_14 : Nat) (tb_14 : Nat → Int32) (hz_14_0 : tu_14 ≤ 220) : tu_14 ≤ 220 := by
  first | assumption | omega | decide
theorem lf_X11_feed_18 (a : Nat → Nat) (ap : Int32) (tu : Nat) (tb : Nat → Int32) (n1 : Int32) (n2 : Int32) (n3 : Int32) (n4 : Int32) (n5 : Int32) (htu : tu ≤ 220) (r_1 : Int32) (c_2 : ¬ r_1 = 0) (tu_5 : Nat) (tb_5 : Nat → Int32) (hz_5_0 : tu_5 ≤ 220) (tu_8 : Nat) (tb_8 : Nat → Int32) (hz_8_0 : tu_8 ≤ 220) (tu_11 : Nat) (tb_11 : Nat → Int32) (hz_11_0 : tu_11 ≤ 220) (tu_14 : Nat) (tb_14 : Nat → Int32) (hz_14_0 : tu_14 ≤ 220) (tu_17 : Nat) (tb_17 : Nat → Int32) (hz_17_0 : tu_17 ≤ 220) : ((tu_17 : Nat) ≤ 220) := by
  first | omega | assumption | trivial
theorem lf_X11_feed_19 (a : Nat → Nat) (ap : Int32) (tu : Nat) (tb : Nat → Int32) (n1 : Int32) (n2 : Int32) (n3 : Int32) (n4 : Int32) (n5 : Int32) (htu : tu ≤ 220) (r_1 : Int32) (c_2 : r_1 = 0) : ((tu : Nat) ≤ 220) := by
  first | omega | assumption | trivial
set_option maxHeartbeats 4000000 in
set_option maxRecDepth 100000 in
theorem c_X11_feed (l : Launch) (D : va_G) (cI cB cZ cJ : ClassId) (tx : List (ClassId × FieldType)) (a : Nat → Nat) (ap : Int32) (tu : Nat) (tb : Nat → Int32) (n1 : Int32) (n2 : Int32) (n3 : Int32) (n4 : Int32) (n5 : Int32) (htu : tu ≤ 220) : WrI l D cI cB cZ cJ tx yX11_feed cX11_feed 6 (some .int) 1 0 0 [.ref (a 0), .int n1, .int n2, .int n3, .int n4, .int n5] [(a 0, .inr (11, [.ref (a 1), .ref (a 2), .ref (a 3), .ref (a 4), .ref (a 5), .ref (a 6), .ref (a 7), .ref (a 8), .ref (a 9), .ref (a 10), .ref (a 11), .ref (a 12), .int ap])), (a 1, .inr (8, [.ref (a 17), .int (nI tu)])), (a 17, .inl (cB, 220, .inl tb))] (fun (r : Int32) (v : (Nat) × (Nat → Int32)) => (v.1 ≤ 220)) (fun v => [(a 0, .inr (11, [.ref (a 1), .ref (a 2), .ref (a 3), .ref (a 4), .ref (a 5), .ref (a 6), .ref (a 7), .ref (a 8), .ref (a 9), .ref (a 10), .ref (a 11), .ref (a 12), .int ap])), (a 1, .inr (8, [.ref (a 17), .int (nI (v.1))])), (a 17, .inl (cB, 220, .inl v.2))]) := by
  refine wri_of2 (by decide) (Nat.le_of_ble_eq_true rfl) ?_
  intro p e s m below meth c A ls H locs hC hK hP hD hA hS hl
  obtain ⟨hx, hb, hr, hml, hown, hts, hlocks, hin⟩ := hC
  have hown : s.vm.findClass RX11 = some m.cls := hown
  have hl : lv_has ls 6 [(0, .ref (a 0)), (1, .int n1), (2, .int n2), (3, .int n3), (4, .int n4), (5, .int n5)] := hl
  refine lv_aload_n hx hb dX11_feed_0 rfl (lv_at hl 0 rfl) ?_
  refine va_get (D := D) (ci := 11) (v := .ref (a 1)) (C := RX11) (T := TX11) (N := 13) hx hb hts inT_X11 hown hK.1 hP 0 rfl rfl 0 (by decide) (hts _ k_483) (fun _ h9 => h9) rfl dX11_feed_1 ?_
  refine lv_bipush (v := 20) hx hb dX11_feed_4 (by decide) ?_
  refine eRi (va_runV (As := [.int 20]) (rest := []) ⟨hx, hb, hml, hown, hts⟩ (c_X8_hasRoom l D cI cB cZ cJ tx a tu tb 20 H.size) (zV hts k_539 v_X8_hasRoom ⟨Nat.le_of_ble_eq_true rfl, Nat.le_of_ble_eq_true rfl⟩) (pV (pxS hK hP hD [1, 2] (by decide) rfl) hK hP 1 rfl rfl) rfl rfl hl.1 rfl (lv_room (Nat.le_of_ble_eq_true rfl)) dX11_feed_6 ⟨Nat.le_of_ble_eq_true rfl, Nat.le_of_ble_eq_true rfl⟩) hP hS hA (fun r_1 H locs wr_1 hP hS => ?_)
  refine lv_if_ne (tgt := 14) hx hb dX11_feed_9 (by decide) (fun c_2 => ?_) (fun c_2 => ?_)
  · refine lv_aload_n hx hb dX11_feed_14 rfl (lv_at hl 0 rfl) ?_
    refine va_get (D := D) (ci := 11) (v := .ref (a 1)) (C := RX11) (T := TX11) (N := 13) hx hb hts inT_X11 hown hK.1 hP 0 rfl rfl 0 (by decide) (hts _ k_483) (fun _ h9 => h9) rfl dX11_feed_15 ?_
    refine lv_iload_n hx hb dX11_feed_18 rfl (lv_at hl 1 rfl) ?_
    refine eWv (wr := [(a 0, .inr (11, [.ref (a 1), .ref (a 2), .ref (a 3), .ref (a 4), .ref (a 5), .ref (a 6), .ref (a 7), .ref (a 8), .ref (a 9), .ref (a 10), .ref (a 11), .ref (a 12), .int ap]))]) (va_runV (As := [.int n1]) (rest := []) ⟨hx, hb, hml, hown, hts⟩ (c_X8_put l D cI cB cZ cJ tx a tu tb n1 (lf_X11_feed_3 a ap tu tb n1 n2 n3 n4 n5 htu r_1 c_2) H.size) (zV hts k_543 v_X8_put ⟨Nat.le_of_ble_eq_true rfl, Nat.le_of_ble_eq_true rfl⟩) (pV (pxS hK hP hD [1, 2] (by decide) rfl) hK hP 1 rfl rfl) rfl rfl hl.1 rfl (lv_room (Nat.le_of_ble_eq_true rfl)) dX11_feed_19 ⟨Nat.le_of_ble_eq_true rfl, Nat.le_of_ble_eq_true rfl⟩) hP hD hS hA [1, 2] [0] rfl rfl (by decide) (by decide) (fun u_5 H locs wr_4 hP hD hS => ?_)
    obtain ⟨tu_5, tb_5⟩ := u_5
    have hz_5_0 : tu_5 ≤ 220 := wr_4
    have hP : va_P D vwCl [(a 0, .inr (11, [.ref (a 1), .ref (a 2), .ref (a 3), .ref (a 4), .ref (a 5), .ref (a 6), .ref (a 7), .ref (a 8), .ref (a 9), .ref (a 10), .ref (a 11), .ref (a 12), .int ap])), (a 1, .inr (8, [.ref (a 17), .int (nI tu_5)])), (a 17, .inl (cB, 220, .inl tb_5))] H := hP
    have hD : va_D A [(a 0, .inr (11, [.ref (a 1), .ref (a 2), .ref (a 3), .ref (a 4), .ref (a 5), .ref (a 6), .ref (a 7), .ref (a 8), .ref (a 9), .ref (a 10), .ref (a 11), .ref (a 12), .int ap])), (a 1, .inr (8, [.ref (a 17), .int (nI tu_5)])), (a 17, .inl (cB, 220, .inl tb_5))] := hD
    refine lv_aload_n hx hb dX11_feed_22 rfl (lv_at hl 0 rfl) ?_
    refine va_get (D := D) (ci := 11) (v := .ref (a 1)) (C := RX11) (T := TX11) (N := 13) hx hb hts inT_X11 hown hK.1 hP 0 rfl rfl 0 (by decide) (hts _ k_483) (fun _ h9 => h9) rfl dX11_feed_23 ?_
    refine lv_iload_n hx hb dX11_feed_26 rfl (lv_at hl 2 rfl) ?_
    refine eWv (wr := [(a 0, .inr (11, [.ref (a 1), .ref (a 2), .ref (a 3), .ref (a 4), .ref (a 5), .ref (a 6), .ref (a 7), .ref (a 8), .ref (a 9), .ref (a 10), .ref (a 11), .ref (a 12), .int ap]))]) (va_runV (As := [.int n2]) (rest := []) ⟨hx, hb, hml, hown, hts⟩ (c_X8_put l D cI cB cZ cJ tx a tu_5 tb_5 n2 (lf_X11_feed_6 a ap tu tb n1 n2 n3 n4 n5 htu r_1 c_2 tu_5 tb_5 hz_5_0) H.size) (zV hts k_543 v_X8_put ⟨Nat.le_of_ble_eq_true rfl, Nat.le_of_ble_eq_true rfl⟩) (pV (pxS hK hP hD [1, 2] (by decide) rfl) hK hP 1 rfl rfl) rfl rfl hl.1 rfl (lv_room (Nat.le_of_ble_eq_true rfl)) dX11_feed_27 ⟨Nat.le_of_ble_eq_true rfl, Nat.le_of_ble_eq_true rfl⟩) hP hD hS hA [1, 2] [0] rfl rfl (by decide) (by decide) (fun u_8 H locs wr_7 hP hD hS => ?_)
    obtain ⟨tu_8, tb_8⟩ := u_8
    have hz_8_0 : tu_8 ≤ 220 := wr_7
    have hP : va_P D vwCl [(a 0, .inr (11, [.ref (a 1), .ref (a 2), .ref (a 3), .ref (a 4), .ref (a 5), .ref (a 6), .ref (a 7), .ref (a 8), .ref (a 9), .ref (a 10), .ref (a 11), .ref (a 12), .int ap])), (a 1, .inr (8, [.ref (a 17), .int (nI tu_8)])), (a 17, .inl (cB, 220, .inl tb_8))] H := hP
    have hD : va_D A [(a 0, .inr (11, [.ref (a 1), .ref (a 2), .ref (a 3), .ref (a 4), .ref (a 5), .ref (a 6), .ref (a 7), .ref (a 8), .ref (a 9), .ref (a 10), .ref (a 11), .ref (a 12), .int ap])), (a 1, .inr (8, [.ref (a 17), .int (nI tu_8)])), (a 17, .inl (cB, 220, .inl tb_8))] := hD
    refine lv_aload_n hx hb dX11_feed_30 rfl (lv_at hl 0 rfl) ?_
    refine va_get (D := D) (ci := 11) (v := .ref (a 1)) (C := RX11) (T := TX11) (N := 13) hx hb hts inT_X11 hown hK.1 hP 0 rfl rfl 0 (by decide) (hts _ k_483) (fun _ h9 => h9) rfl dX11_feed_31 ?_
    refine lv_iload_n hx hb dX11_feed_34 rfl (lv_at hl 3 rfl) ?_
    refine eWv (wr := [(a 0, .inr (11, [.ref (a 1), .ref (a 2), .ref (a 3), .ref (a 4), .ref (a 5), .ref (a 6), .ref (a 7), .ref (a 8), .ref (a 9), .ref (a 10), .ref (a 11), .ref (a 12), .int ap]))]) (va_runV (As := [.int n3]) (rest := []) ⟨hx, hb, hml, hown, hts⟩ (c_X8_put l D cI cB cZ cJ tx a tu_8 tb_8 n3 (lf_X11_feed_9 a ap tu tb n1 n2 n3 n4 n5 htu r_1 c_2 tu_5 tb_5 hz_5_0 tu_8 tb_8 hz_8_0) H.size) (zV hts k_543 v_X8_put ⟨Nat.le_of_ble_eq_true rfl, Nat.le_of_ble_eq_true rfl⟩) (pV (pxS hK hP hD [1, 2] (by decide) rfl) hK hP 1 rfl rfl) rfl rfl hl.1 rfl (lv_room (Nat.le_of_ble_eq_true rfl)) dX11_feed_35 ⟨Nat.le_of_ble_eq_true rfl, Nat.le_of_ble_eq_true rfl⟩) hP hD hS hA [1, 2] [0] rfl rfl (by decide) (by decide) (fun u_11 H locs wr_10 hP hD hS => ?_)
    obtain ⟨tu_11, tb_11⟩ := u_11
    have hz_11_0 : tu_11 ≤ 220 := wr_10
    have hP : va_P D vwCl [(a 0, .inr (11, [.ref (a 1), .ref (a 2), .ref (a 3), .ref (a 4), .ref (a 5), .ref (a 6), .ref (a 7), .ref (a 8), .ref (a 9), .ref (a 10), .ref (a 11), .ref (a 12), .int ap])), (a 1, .inr (8, [.ref (a 17), .int (nI tu_11)])), (a 17, .inl (cB, 220, .inl tb_11))] H := hP
    have hD : va_D A [(a 0, .inr (11, [.ref (a 1), .ref (a 2), .ref (a 3), .ref (a 4), .ref (a 5), .ref (a 6), .ref (a 7), .ref (a 8), .ref (a 9), .ref (a 10), .ref (a 11), .ref (a 12), .int ap])), (a 1, .inr (8, [.ref (a 17), .int (nI tu_11)])), (a 17, .inl (cB, 220, .inl tb_11))] := hD
    refine lv_aload_n hx hb dX11_feed_38 rfl (lv_at hl 0 rfl) ?_
    refine va_get (D := D) (ci := 11) (v := .ref (a 1)) (C := RX11) (T := TX11) (N := 13) hx hb hts inT_X11 hown hK.1 hP 0 rfl rfl 0 (by decide) (hts _ k_483) (fun _ h9 => h9) rfl dX11_feed_39 ?_
    refine lv_iload hx hb dX11_feed_42 (lv_at hl 4 rfl) ?_
    refine eWv (wr := [(a 0, .inr (11, [.ref (a 1), .ref (a 2), .ref (a 3), .ref (a 4), .ref (a 5), .ref (a 6), .ref (a 7), .ref (a 8), .ref (a 9), .ref (a 10), .ref (a 11), .ref (a 12), .int ap]))]) (va_runV (As := [.int n4]) (rest := []) ⟨hx, hb, hml, hown, hts⟩ (c_X8_put l D cI cB cZ cJ tx a tu_11 tb_11 n4 (lf_X11_feed_12 a ap tu tb n1 n2 n3 n4 n5 htu r_1 c_2 tu_5 tb_5 hz_5_0 tu_8 tb_8 hz_8_0 tu_11 tb_11 hz_11_0) H.size) (zV hts k_543 v_X8_put ⟨Nat.le_of_ble_eq_true rfl, Nat.le_of_ble_eq_true rfl⟩) (pV (pxS hK hP hD [1, 2] (by decide) rfl) hK hP 1 rfl rfl) rfl rfl hl.1 rfl (lv_room (Nat.le_of_ble_eq_true rfl)) dX11_feed_44 ⟨Nat.le_of_ble_eq_true rfl, Nat.le_of_ble_eq_true rfl⟩) hP hD hS hA [1, 2] [0] rfl rfl (by decide) (by decide) (fun u_14 H locs wr_13 hP hD hS => ?_)
    obtain ⟨tu_14, tb_14⟩ := u_14
    have hz_14_0 : tu_14 ≤ 220 := wr_13
    have hP : va_P D vwCl [(a 0, .inr (11, [.ref (a 1), .ref (a 2), .ref (a 3), .ref (a 4), .ref (a 5), .ref (a 6), .ref (a 7), .ref (a 8), .ref (a 9), .ref (a 10), .ref (a 11), .ref (a 12), .int ap])), (a 1, .inr (8, [.ref (a 17), .int (nI tu_14)])), (a 17, .inl (cB, 220, .inl tb_14))] H := hP
    have hD : va_D A [(a 0, .inr (11, [.ref (a 1), .ref (a 2), .ref (a 3), .ref (a 4), .ref (a 5), .ref (a 6), .ref (a 7), .ref (a 8), .ref (a 9), .ref (a 10), .ref (a 11), .ref (a 12), .int ap])), (a 1, .inr (8, [.ref (a 17), .int (nI tu_14)])), (a 17, .inl (cB, 220, .inl tb_14))] := hD
    refine lv_aload_n hx hb dX11_feed_47 rfl (lv_at hl 0 rfl) ?_
    refine va_get (D := D) (ci := 11) (v := .ref (a 1)) (C := RX11) (T := TX11) (N := 13) hx hb hts inT_X11 hown hK.1 hP 0 rfl rfl 0 (by decide) (hts _ k_483) (fun _ h9 => h9) rfl dX11_feed_48 ?_
    refine lv_iload hx hb dX11_feed_51 (lv_at hl 5 rfl) ?_
    refine eWv (wr := [(a 0, .inr (11, [.ref (a 1), .ref (a 2), .ref (a 3), .ref (a 4), .ref (a 5), .ref (a 6), .ref (a 7), .ref (a 8), .ref (a 9), .ref (a 10), .ref (a 11), .ref (a 12), .int ap]))]) (va_runV (As := [.int n5]) (rest := []) ⟨hx, hb, hml, hown, hts⟩ (c_X8_put l D cI cB cZ cJ tx a tu_14 tb_14 n5 (lf_X11_feed_15 a ap tu tb n1 n2 n3 n4 n5 htu r_1 c_2 tu_5 tb_5 hz_5_0 tu_8 tb_8 hz_8_0 tu_11 tb_11 hz_11_0 tu_14 tb_14 hz_14_0) H.size) (zV hts k_543 v_X8_put ⟨Nat.le_of_ble_eq_true rfl, Nat.le_of_ble_eq_true rfl⟩) (pV (pxS hK hP hD [1, 2] (by decide) rfl) hK hP 1 rfl rfl) rfl rfl hl.1 rfl (lv_room (Nat.le_of_ble_eq_true rfl)) dX11_feed_53 ⟨Nat.le_of_ble_eq_true rfl, Nat.le_of_ble_eq_true rfl⟩) hP hD hS hA [1, 2] [0] rfl rfl (by decide) (by decide) (fun u_17 H locs wr_16 hP hD hS => ?_)
    obtain ⟨tu_17, tb_17⟩ := u_17
    have hz_17_0 : tu_17 ≤ 220 := wr_16
    have hP : va_P D vwCl [(a 0, .inr (11, [.ref (a 1), .ref (a 2), .ref (a 3), .ref (a 4), .ref (a 5), .ref (a 6), .ref (a 7), .ref (a 8), .ref (a 9), .ref (a 10), .ref (a 11), .ref (a 12), .int ap])), (a 1, .inr (8, [.ref (a 17), .int (nI tu_17)])), (a 17, .inl (cB, 220, .inl tb_17))] H := hP
    have hD : va_D A [(a 0, .inr (11, [.ref (a 1), .ref (a 2), .ref (a 3), .ref (a 4), .ref (a 5), .ref (a 6), .ref (a 7), .ref (a 8), .ref (a 9), .ref (a 10), .ref (a 11), .ref (a 12), .int ap])), (a 1, .inr (8, [.ref (a 17), .int (nI tu_17)])), (a 17, .inl (cB, 220, .inl tb_17))] := hD
    refine lv_aload_n hx hb dX11_feed_56 rfl (lv_at hl 0 rfl) ?_
    refine va_get (D := D) (ci := 11) (v := .ref (a 1)) (C := RX11) (T := TX11) (N := 13) hx hb hts inT_X11 hown hK.1 hP 0 rfl rfl 0 (by decide) (hts _ k_483) (fun _ h9 => h9) rfl dX11_feed_57 ?_
    refine va_getN (D := D) (ci := 8) (v := .int (nI tu_17)) (C := RX8) (T := TX8) (N := 2) hx hb hts inT_X8 hown hK.1 hP 1 rfl rfl 1 (by decide) (va_Nw.use rfl (hK.2.2.1 _ n_152)) (fun _ h9 => h9) rfl dX11_feed_60 ?_
    exact W.iret (v := nI tu_17) hx hb hr (fun tt9 ht hW => ⟨⟨(nI tu_17 : Int32), ((tu_17 : Nat), (tb_17 : Nat → Int32)), rfl, (lf_X11_feed_18 a ap tu tb n1 n2 n3 n4 n5 htu r_1 c_2 tu_5 tb_5 hz_5_0 tu_8 tb_8 hz_8_0 tu_11 tb_11 hz_11_0 tu_14 tb_14 hz_14_0 tu_17 tb_17 hz_17_0), ⟨by rw [ht]; exact hP, hD⟩⟩, hS.F ht⟩) hS.2.2 dX11_feed_63 hlocks
  · refine lv_iconst (v := (-1)) hx hb dX11_feed_12 (by decide) ?_
    exact W.iret (v := (-1)) hx hb hr (fun tt9 ht hW => ⟨⟨((-1) : Int32), ((tu : Nat), (tb : Nat → Int32)), rfl, (lf_X11_feed_19 a ap tu tb n1 n2 n3 n4 n5 htu r_1 c_2), ⟨by rw [ht]; exact hP, hD⟩⟩, hS.F ht⟩) hS.2.2 dX11_feed_13 hlocks
