theorem lf_X11_pitch_f_3 (a : Nat → Nat) (ap : Int32) (n1 : Int32) (c_2 : (1 : Int32) ≤ n1 ∧ n1 ≤ 1000) (tn1 : Nat) (tn1a : 1 ≤ tn1) (tn1b : tn1 ≤ 1000) (tn1e : n1 = nI tn1) : (1 : Int32) = bi ((1 : Int32) ≤ n1 ∧ n1 ≤ 1000) := by
  first | rfl | exact (if_pos (by assumption)).symm | exact (if_neg (by assumption)).symm
theorem lf_X11_pitch_f_4 (a : Nat → Nat) (ap : Int32) (n1 : Int32) (c_2 : ¬ ((1 : Int32) ≤ n1 ∧ n1 ≤ 1000)) : (0 : Int32) = bi ((1 : Int32) ≤ n1 ∧ n1 ≤ 1000) := by
  first | rfl | exact (if_pos (by assumption)).symm | exact (if_neg (by assumption)).symm
set_option maxHeartbeats 4000000 in
set_option maxRecDepth 100000 in
theorem c_X11_pitch_f (l : Launch) (D : va_G) (cI cB cZ cJ : ClassId) (tx : List (ClassId × FieldType)) (a : Nat → Nat) (ap : Int32) (n1 : Int32) : WrI l D cI cB cZ cJ tx yX11_pitch cX11_pitch 2 (some .boolean) 1 0 0 [.ref (a 0), .int n1] [(a 0, .inr (11, [.ref (a 1), .ref (a 2), .ref (a 3), .ref (a 4), .ref (a 5), .ref (a 6), .ref (a 7), .ref (a 8), .ref (a 9), .ref (a 10), .ref (a 11), .ref (a 12), .int ap]))] (fun (r : Int32) (v : (Int32)) => r = bi ((1 : Int32) ≤ n1 ∧ n1 ≤ 1000)) (fun v => [(a 0, .inr (11, [.ref (a 1), .ref (a 2), .ref (a 3), .ref (a 4), .ref (a 5), .ref (a 6), .ref (a 7), .ref (a 8), .ref (a 9), .ref (a 10), .ref (a 11), .ref (a 12), .int v]))]) := by
  refine wri_of2 (by decide) (Nat.le_of_ble_eq_true rfl) ?_
  intro p e s m below meth c A ls H locs hC hK hP hD hA hS hl
  obtain ⟨hx, hb, hr, hml, hown, hts, hlocks, hin⟩ := hC
  have hown : s.vm.findClass RX11 = some m.cls := hown
  have hl : lv_has ls 2 [(0, .ref (a 0)), (1, .int n1)] := hl
  refine lv_iload_n hx hb dX11_pitch_0 rfl (lv_at hl 1 rfl) ?_
  refine lv_iconst (v := 1) hx hb dX11_pitch_1 (by decide) ?_
  refine lv_sipush (v := 1000) hx hb dX11_pitch_2 (by decide) ?_
  refine eRi (va_runS (As := [.int n1, .int 1, .int 1000]) (rest := []) ⟨hx, hb, hml, hown, hts⟩ (c_X11_within l D cI cB cZ cJ tx n1 1 1000 H.size) (zS hts k_527 v_X11_within ⟨Nat.le_of_ble_eq_true rfl, Nat.le_of_ble_eq_true rfl⟩) (px0 hK) rfl rfl hl.1 rfl (lv_room (Nat.le_of_ble_eq_true rfl)) dX11_pitch_5 ⟨Nat.le_of_ble_eq_true rfl, Nat.le_of_ble_eq_true rfl⟩) hP hS hA (fun r_1 H locs wr_1 hP hS => ?_)
  subst wr_1
  refine lv_bi_ne (tgt := 13) hx hb dX11_pitch_8 (by decide) (fun c_2 => ?_) (fun c_2 => ?_)
  · obtain ⟨tn1, tn1a, tn1b, tn1e⟩ := of_rng 1 1000 rfl rfl c_2
    subst tn1e
    refine lv_aload_n hx hb dX11_pitch_13 rfl (lv_at hl 0 rfl) ?_
    refine lv_iload_n hx hb dX11_pitch_14 rfl (lv_at hl 1 rfl) ?_
    refine va_put (D := D) (ci := 11) (v := .int (nI tn1)) (ty := .int) (C := RX11) (T := TX11) (N := 13) hx hb hts inT_X11 tyX11 tyX11_ok nmX11 hown hK.1 hP hD hS 0 rfl rfl 12 (by decide) (hts _ k_495) (fun _ h9 => h9) rfl (by decide +kernel) rfl rfl (Nat.le_of_ble_eq_true rfl) dX11_pitch_15 (fun H locs hP hD hS => ?_)
    have hP : va_P D vwCl [(a 0, .inr (11, [.ref (a 1), .ref (a 2), .ref (a 3), .ref (a 4), .ref (a 5), .ref (a 6), .ref (a 7), .ref (a 8), .ref (a 9), .ref (a 10), .ref (a 11), .ref (a 12), .int (nI tn1)]))] H := hP
    have hD : va_D A [(a 0, .inr (11, [.ref (a 1), .ref (a 2), .ref (a 3), .ref (a 4), .ref (a 5), .ref (a 6), .ref (a 7), .ref (a 8), .ref (a 9), .ref (a 10), .ref (a 11), .ref (a 12), .int (nI tn1)]))] := hD
    refine lv_iconst (v := 1) hx hb dX11_pitch_18 (by decide) ?_
    exact W.zret (v := 1) hx hb hr (by decide) (fun tt9 ht hW => ⟨⟨(1 : Int32), ((nI tn1 : Int32)), rfl, (lf_X11_pitch_f_3 a ap (nI tn1) c_2 tn1 tn1a tn1b rfl), ⟨by rw [ht]; exact hP, hD⟩⟩, hS.F ht⟩) hS.2.2 dX11_pitch_19 hlocks
  · refine lv_iconst (v := 0) hx hb dX11_pitch_11 (by decide) ?_
    exact W.zret (v := 0) hx hb hr (by decide) (fun tt9 ht hW => ⟨⟨(0 : Int32), ((ap : Int32)), rfl, (lf_X11_pitch_f_4 a ap n1 c_2), ⟨by rw [ht]; exact hP, hD⟩⟩, hS.F ht⟩) hS.2.2 dX11_pitch_12 hlocks

theorem lf_X12_pitch_f_4 (h : Nat) (q : Nat → Nat) (im : Nat → Int32) (n1 : Int32) (c_2 : (1 : Int32) ≤ n1 ∧ n1 ≤ 1000) (tn1 : Nat) (tn1a : 1 ≤ tn1) (tn1b : tn1 ≤ 1000) (tn1e : n1 = nI tn1) (i_3 : Nat → Int32) (hsb : SB [4] im i_3) (hi_3_4 : i_3 4 = nI tn1) : (1 : Int32) = bi ((1 : Int32) ≤ n1 ∧ n1 ≤ 1000) ∧ (SB [4] im (i_3 : Nat → Int32)) := by
  refine ⟨?_, ?_⟩
  · first | rfl | exact (if_pos (by assumption)).symm | exact (if_neg (by assumption)).symm
  · assumption
theorem lf_X12_pitch_f_5 (h : Nat) (q : Nat → Nat) (im : Nat → Int32) (n1 : Int32) (hsb : SB [4] im im) (c_2 : ¬ ((1 : Int32) ≤ n1 ∧ n1 ≤ 1000)) : (0 : Int32) = bi ((1 : Int32) ≤ n1 ∧ n1 ≤ 1000) ∧ (SB [4] im (im : Nat → Int32)) := by
  refine ⟨?_, ?_⟩
  · first | rfl | exact (if_pos (by assumption)).symm | exact (if_neg (by assumption)).symm
  · assumption
set_option maxHeartbeats 4000000 in
set_option maxRecDepth 100000 in
theorem c_X12_pitch_f (l : Launch) (D : va_G) (cI cB cZ cJ : ClassId) (tx : List (ClassId × FieldType)) (h : Nat) (q : Nat → Nat) (im : Nat → Int32) (n1 : Int32) : WrI l D cI cB cZ cJ tx yX12_pitch cX12_pitch 2 (some .boolean) 1 0 0 [.ref h, .int n1] [(h, .inr (12, mG q im))] (fun (r : Int32) (v : (Nat → Int32)) => r = bi ((1 : Int32) ≤ n1 ∧ n1 ≤ 1000) ∧ (SB [4] im v)) (fun v => [(h, .inr (12, mG q v))]) := by
  refine wri_of2 (by decide) (Nat.le_of_ble_eq_true rfl) ?_
  intro p e s m below meth c A ls H locs hC hK hP hD hA hS hl
  obtain ⟨hx, hb, hr, hml, hown, hts, hlocks, hin⟩ := hC
  have hown : s.vm.findClass RX12 = some m.cls := hown
  have hl : lv_has ls 2 [(0, .ref h), (1, .int n1)] := hl
  have hsb : SB [4] im im := SB.rf
  refine lv_iload_n hx hb dX12_pitch_0 rfl (lv_at hl 1 rfl) ?_
  refine lv_i2l (v := n1.toInt64) hx hb dX12_pitch_1 rfl ?_
  refine lv_lconst (v := 1) hx hb dX12_pitch_2 (by decide) ?_
  refine lv_ldc2 (v := 1000) hx hb hown (hts _ k_1601) dX12_pitch_3 ?_
  refine eRi (va_runS (As := [.long n1.toInt64, .long 1, .long 1000]) (rest := []) ⟨hx, hb, hml, hown, hts⟩ (c_X12_isIn l D cI cB cZ cJ tx n1.toInt64 1 1000 H.size) (zS hts k_1602 v_X12_isIn ⟨Nat.le_of_ble_eq_true rfl, Nat.le_of_ble_eq_true rfl⟩) (px0 hK) rfl rfl hl.1 rfl (lv_room (Nat.le_of_ble_eq_true rfl)) dX12_pitch_6 ⟨Nat.le_of_ble_eq_true rfl, Nat.le_of_ble_eq_true rfl⟩) hP hS hA (fun r_1 H locs wr_1 hP hS => ?_)
  have wr_1 : r_1 = bi ((1 : Int32) ≤ n1 ∧ n1 ≤ 1000) := isIn32 (lo := 1) (hi := 1000) (by decide) (by decide) wr_1
  subst wr_1
  refine lv_bi_ne (tgt := 14) hx hb dX12_pitch_9 (by decide) (fun c_2 => ?_) (fun c_2 => ?_)
  · obtain ⟨tn1, tn1a, tn1b, tn1e⟩ := of_rng 1 1000 rfl rfl c_2
    subst tn1e
    refine lv_aload_n hx hb dX12_pitch_14 rfl (lv_at hl 0 rfl) ?_
    refine lv_iload_n hx hb dX12_pitch_15 rfl (lv_at hl 1 rfl) ?_
    refine va_put (D := D) (ci := 12) (v := .int (nI tn1)) (ty := .int) (C := RX12) (T := TX12) (N := 81) hx hb hts inT_X12 tyX12 tyX12_ok nmX12 hown hK.1 hP hD hS 0 rfl rfl 4 (by decide) (hts _ k_1357) (fun _ h9 => h9) rfl (by decide +kernel) rfl rfl (Nat.le_of_ble_eq_true rfl) dX12_pitch_16 (fun H locs hP hD hS => ?_)
    obtain ⟨i_3, ei_3⟩ : ∃ z : Nat → Int32, z = upd im 4 (nI tn1) := ⟨_, rfl⟩
    have hi_3_4 : i_3 4 = nI tn1 := by rw [ei_3]; rfl
    have hsb := SB.put hsb ei_3 (by decide)
    have hP : va_P D vwCl [(h, .inr (12, mG q i_3))] H := by rw [ei_3, ← mG_4]; exact hP
    have hD : va_D A [(h, .inr (12, mG q i_3))] := by rw [ei_3, ← mG_4]; exact hD
    refine lv_iconst (v := 1) hx hb dX12_pitch_19 (by decide) ?_
    exact W.zret (v := 1) hx hb hr (by decide) (fun tt9 ht hW => ⟨⟨(1 : Int32), ((i_3 : Nat → Int32)), rfl, (lf_X12_pitch_f_4 h q im (nI tn1) c_2 tn1 tn1a tn1b rfl i_3 hsb hi_3_4), ⟨by rw [ht]; exact hP, hD⟩⟩, hS.F ht⟩) hS.2.2 dX12_pitch_20 hlocks
  · refine lv_iconst (v := 0) hx hb dX12_pitch_12 (by decide) ?_
    exact W.zret (v := 0) hx hb hr (by decide) (fun tt9 ht hW => ⟨⟨(0 : Int32), ((im : Nat → Int32)), rfl, (lf_X12_pitch_f_5 h q im n1 hsb c_2), ⟨by rw [ht]; exact hP, hD⟩⟩, hS.F ht⟩) hS.2.2 dX12_pitch_13 hlocks
