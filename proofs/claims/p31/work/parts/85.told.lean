theorem lf_X12_lies_f_1 (h : Nat) (q : Nat → Nat) (im : Nat → Int32) (ms : Nat) (mk : Nat) (m_across : Nat → Int32) (m_deep : Nat → Int32) (m_isGone : Nat → Int32) (m_isKnown : Nat → Int32) (n1 : Int32) (n2 : Int32) (n3 : Int32) (n4 : Int32) (n5 : Int32) (hf_ms : im 2 = nI ms) (hf_mk : im 3 = nI mk) (hms : ms ≤ 24) (hmk : mk ≤ 8) (hm3 : mk = 0 ∨ 3 ≤ ms) (hac : ∀ p, in3 (m_across p)) : ms ≤ 24 := by
  first | assumption | omega | decide | rfl
theorem lf_X12_lies_f_2 (h : Nat) (q : Nat → Nat) (im : Nat → Int32) (ms : Nat) (mk : Nat) (m_across : Nat → Int32) (m_deep : Nat → Int32) (m_isGone : Nat → Int32) (m_isKnown : Nat → Int32) (n1 : Int32) (n2 : Int32) (n3 : Int32) (n4 : Int32) (n5 : Int32) (hf_ms : im 2 = nI ms) (hf_mk : im 3 = nI mk) (hms : ms ≤ 24) (hmk : mk ≤ 8) (hm3 : mk = 0 ∨ 3 ≤ ms) (hac : ∀ p, in3 (m_across p)) : mk ≤ 8 := by
  first | assumption | omega | decide | rfl
theorem lf_X12_lies_f_3 (h : Nat) (q : Nat → Nat) (im : Nat → Int32) (ms : Nat) (mk : Nat) (m_across : Nat → Int32) (m_deep : Nat → Int32) (m_isGone : Nat → Int32) (m_isKnown : Nat → Int32) (n1 : Int32) (n2 : Int32) (n3 : Int32) (n4 : Int32) (n5 : Int32) (hf_ms : im 2 = nI ms) (hf_mk : im 3 = nI mk) (hms : ms ≤ 24) (hmk : mk ≤ 8) (hm3 : mk = 0 ∨ 3 ≤ ms) (hac : ∀ p, in3 (m_across p)) : mk = 0 ∨ 3 ≤ ms := by
  first | assumption | omega | decide | rfl
theorem lf_X12_lies_f_5 (h : Nat) (q : Nat → Nat) (im : Nat → Int32) (ms : Nat) (mk : Nat) (m_across : Nat → Int32) (m_deep : Nat → Int32) (m_isGone : Nat → Int32) (m_isKnown : Nat → Int32) (n1 : Int32) (n2 : Int32) (n3 : Int32) (n4 : Int32) (n5 : Int32) (hf_ms : im 2 = nI ms) (hf_mk : im 3 = nI mk) (hms : ms ≤ 24) (hmk : mk ≤ 8) (hm3 : mk = 0 ∨ 3 ≤ ms) (hac : ∀ p, in3 (m_across p)) : (∀ p, in3 ((m_across : Nat → Int32) p)) := by
  first | assumption | exact in3_upd hac (by assumption) (in3_of (Or.inr (by assumption)))
theorem lf_X12_lies_f_8 (h : Nat) (q : Nat → Nat) (im : Nat → Int32) (ms : Nat) (mk : Nat) (m_across : Nat → Int32) (m_deep : Nat → Int32) (m_isGone : Nat → Int32) (m_isKnown : Nat → Int32) (n1 : Int32) (n2 : Int32) (n3 : Int32) (n4 : Int32) (n5 : Int32) (hf_ms : im 2 = nI ms) (hf_mk : im 3 = nI mk) (hms : ms ≤ 24) (hmk : mk ≤ 8) (hm3 : mk = 0 ∨ 3 ≤ ms) (hac : ∀ p, in3 (m_across p)) (ff4 : Nat) (ss4 : Nat) (dd4 : Nat) (hff4 : ff4 < ms) (hss4 : ss4 < mk) (hdd4 : dd4 < 2) (c_7 : ¬ (((-3000) : Int32) ≤ n4 ∧ n4 ≤ 3000)) : (∀ p, in3 ((m_across : Nat → Int32) p)) := by
  first | assumption | exact in3_upd hac (by assumption) (in3_of (Or.inr (by assumption)))
theorem lf_X12_lies_f_13 (h : Nat) (q : Nat → Nat) (im : Nat → Int32) (ms : Nat) (mk : Nat) (m_across : Nat → Int32) (m_deep : Nat → Int32) (m_isGone : Nat → Int32) (m_isKnown : Nat → Int32) (n1 : Int32) (n2 : Int32) (n3 : Int32) (n4 : Int32) (n5 : Int32) (hf_ms : im 2 = nI ms) (hf_mk : im 3 = nI mk) (hms : ms ≤ 24) (hmk : mk ≤ 8) (hm3 : mk = 0 ∨ 3 ≤ ms) (hac : ∀ p, in3 (m_across p)) (ff4 : Nat) (ss4 : Nat) (dd4 : Nat) (hff4 : ff4 < ms) (hss4 : ss4 < mk) (hdd4 : dd4 < 2) (c_7 : ((-3000) : Int32) ≤ n4 ∧ n4 ≤ 3000) (c_10 : ((-3000) : Int32) ≤ n5 ∧ n5 ≤ 3000) : (16 * ff4 + 2 * ss4 + dd4) < 384 := by
  omega
theorem lf_X12_lies_f_16 (h : Nat) (q : Nat → Nat) (im : Nat → Int32) (ms : Nat) (mk : Nat) (m_across : Nat → Int32) (m_deep : Nat → Int32) (m_isGone : Nat → Int32) (m_isKnown : Nat → Int32) (n1 : Int32) (n2 : Int32) (n3 : Int32) (n4 : Int32) (n5 : Int32) (hf_ms : im 2 = nI ms) (hf_mk : im 3 = nI mk) (hms : ms ≤ 24) (hmk : mk ≤ 8) (hm3 : mk = 0 ∨ 3 ≤ ms) (hac : ∀ p, in3 (m_across p)) (ff4 : Nat) (ss4 : Nat) (dd4 : Nat) (hff4 : ff4 < ms) (hss4 : ss4 < mk) (hdd4 : dd4 < 2) (c_7 : ((-3000) : Int32) ≤ n4 ∧ n4 ≤ 3000) (c_10 : ((-3000) : Int32) ≤ n5 ∧ n5 ≤ 3000) (f_12 : Nat → Int32) (ef_12 : f_12 = upd m_across (16 * ff4 + 2 * ss4 + dd4) n4) : vp_in (nI (16 * ff4 + 2 * ss4 + dd4)) 384 := by
  first | exact vp_in_nI (by omega) (by decide) | (unfold vp_in; decide)
theorem lf_X12_lies_f_19 (h : Nat) (q : Nat → Nat) (im : Nat → Int32) (ms : Nat) (mk : Nat) (m_across : Nat → Int32) (m_deep : Nat → Int32) (m_isGone : Nat → Int32) (m_isKnown : Nat → Int32) (n1 : Int32) (n2 : Int32) (n3 : Int32) (n4 : Int32) (n5 : Int32) (hf_ms : im 2 = nI ms) (hf_mk : im 3 = nI mk) (hms : ms ≤ 24) (hmk : mk ≤ 8) (hm3 : mk = 0 ∨ 3 ≤ ms) (hac : ∀ p, in3 (m_across p)) (ff4 : Nat) (ss4 : Nat) (dd4 : Nat) (hff4 : ff4 < ms) (hss4 : ss4 < mk) (hdd4 : dd4 < 2) (c_7 : ((-3000) : Int32) ≤ n4 ∧ n4 ≤ 3000) (c_10 : ((-3000) : Int32) ≤ n5 ∧ n5 ≤ 3000) (f_12 : Nat → Int32) (ef_12 : f_12 = upd m_across (16 * ff4 + 2 * ss4 + dd4) n4) (f_15 : Nat → Int32) : vp_in (nI (16 * ff4 + 2 * ss4 + dd4)) 384 := by
  first | exact vp_in_nI (by omega) (by decide) | (unfold vp_in; decide)
theorem lf_X12_lies_f_22 (h : Nat) (q : Nat → Nat) (im : Nat → Int32) (ms : Nat) (mk : Nat) (m_across : Nat → Int32) (m_deep : Nat → Int32) (m_isGone : Nat → Int32) (m_isKnown : Nat → Int32) (n1 : Int32) (n2 : Int32) (n3 : Int32) (n4 : Int32) (n5 : Int32) (hf_ms : im 2 = nI ms) (hf_mk : im 3 = nI mk) (hms : ms ≤ 24) (hmk : mk ≤ 8) (hm3 : mk = 0 ∨ 3 ≤ ms) (hac : ∀ p, in3 (m_across p)) (ff4 : Nat) (ss4 : Nat) (dd4 : Nat) (hff4 : ff4 < ms) (hss4 : ss4 < mk) (hdd4 : dd4 < 2) (c_7 : ((-3000) : Int32) ≤ n4 ∧ n4 ≤ 3000) (c_10 : ((-3000) : Int32) ≤ n5 ∧ n5 ≤ 3000) (f_12 : Nat → Int32) (ef_12 : f_12 = upd m_across (16 * ff4 + 2 * ss4 + dd4) n4) (f_15 : Nat → Int32) (f_18 : Nat → Int32) (m_isKnown_21 : Nat → Int32) : (∀ p, in3 ((f_12 : Nat → Int32) p)) := by
  first | assumption | exact in3_upd hac (by assumption) (in3_of (Or.inr (by assumption)))
theorem lf_X12_lies_f_23 (h : Nat) (q : Nat → Nat) (im : Nat → Int32) (ms : Nat) (mk : Nat) (m_across : Nat → Int32) (m_deep : Nat → Int32) (m_isGone : Nat → Int32) (m_isKnown : Nat → Int32) (n1 : Int32) (n2 : Int32) (n3 : Int32) (n4 : Int32) (n5 : Int32) (hf_ms : im 2 = nI ms) (hf_mk : im 3 = nI mk) (hms : ms ≤ 24) (hmk : mk ≤ 8) (hm3 : mk = 0 ∨ 3 ≤ ms) (hac : ∀ p, in3 (m_across p)) (ff4 : Nat) (ss4 : Nat) (dd4 : Nat) (hff4 : ff4 < ms) (hss4 : ss4 < mk) (hdd4 : dd4 < 2) (c_7 : ((-3000) : Int32) ≤ n4 ∧ n4 ≤ 3000) (c_10 : ¬ (((-3000) : Int32) ≤ n5 ∧ n5 ≤ 3000)) : (∀ p, in3 ((m_across : Nat → Int32) p)) := by
  first | assumption | exact in3_upd hac (by assumption) (in3_of (Or.inr (by assumption)))
set_option maxHeartbeats 4000000 in
set_option maxRecDepth 100000 in
theorem c_X12_lies_f (l : Launch) (D : va_G) (cI cB cZ cJ : ClassId) (tx : List (ClassId × FieldType)) (h : Nat) (q : Nat → Nat) (im : Nat → Int32) (ms : Nat) (mk : Nat) (m_across : Nat → Int32) (m_deep : Nat → Int32) (m_isGone : Nat → Int32) (m_isKnown : Nat → Int32) (n1 : Int32) (n2 : Int32) (n3 : Int32) (n4 : Int32) (n5 : Int32) (hf_ms : im 2 = nI ms) (hf_mk : im 3 = nI mk) (hms : ms ≤ 24) (hmk : mk ≤ 8) (hm3 : mk = 0 ∨ 3 ≤ ms) (hac : ∀ p, in3 (m_across p)) : WrI l D cI cB cZ cJ tx yX12_lies cX12_lies 6 (some .boolean) 3 0 0 [.ref h, .int n1, .int n2, .int n3, .int n4, .int n5] [(h, .inr (12, mG q im)), (q 44, .inl (cI, 384, .inl m_across)), (q 45, .inl (cI, 384, .inl m_deep)), (q 46, .inl (cZ, 384, .inl m_isGone)), (q 66, .inl (cZ, 8, .inl m_isKnown))] (fun (r : Int32) (v : (Nat → Int32) × (Nat → Int32) × (Nat → Int32) × (Nat → Int32)) => (∀ p, in3 (v.1 p))) (fun v => [(h, .inr (12, mG q im)), (q 44, .inl (cI, 384, .inl v.1)), (q 45, .inl (cI, 384, .inl v.2.1)), (q 46, .inl (cZ, 384, .inl v.2.2.1)), (q 66, .inl (cZ, 8, .inl v.2.2.2))]) := by
  refine wri_of2 (by decide) (Nat.le_of_ble_eq_true rfl) ?_
  intro p e s m below meth c A ls H locs hC hK hP hD hA hS hl
  obtain ⟨hx, hb, hr, hml, hown, hts, hlocks, hin⟩ := hC
  have hown : s.vm.findClass RX12 = some m.cls := hown
  have hl : lv_has ls 6 [(0, .ref h), (1, .int n1), (2, .int n2), (3, .int n3), (4, .int n4), (5, .int n5)] := hl
  refine W_gQ (fun Q hQ => ?_)
  refine lv_aload_n hx hb dX12_lies_0 rfl (lv_at hl 0 rfl) ?_
  refine lv_iload_n hx hb dX12_lies_1 rfl (lv_at hl 1 rfl) ?_
  refine lv_iload_n hx hb dX12_lies_2 rfl (lv_at hl 2 rfl) ?_
  refine lv_iload_n hx hb dX12_lies_3 rfl (lv_at hl 3 rfl) ?_
  refine eRi (va_runV (As := [.int n1, .int n2, .int n3]) (rest := []) ⟨hx, hb, hml, hown, hts⟩ (c_X12_isRivet l D cI cB cZ cJ tx h q im ms mk n1 n2 n3 hf_ms hf_mk (lf_X12_lies_f_1 h q im ms mk m_across m_deep m_isGone m_isKnown n1 n2 n3 n4 n5 hf_ms hf_mk hms hmk hm3 hac) (lf_X12_lies_f_2 h q im ms mk m_across m_deep m_isGone m_isKnown n1 n2 n3 n4 n5 hf_ms hf_mk hms hmk hm3 hac) (lf_X12_lies_f_3 h q im ms mk m_across m_deep m_isGone m_isKnown n1 n2 n3 n4 n5 hf_ms hf_mk hms hmk hm3 hac) H.size) (zV hts k_1799 v_X12_isRivet ⟨Nat.le_of_ble_eq_true rfl, Nat.le_of_ble_eq_true rfl⟩) (pV (px1 hK hP 0 rfl) hK hP 0 rfl rfl) rfl rfl hl.1 rfl (lv_room (Nat.le_of_ble_eq_true rfl)) dX12_lies_4 ⟨Nat.le_of_ble_eq_true rfl, Nat.le_of_ble_eq_true rfl⟩) hP hS hA (fun r_4 H locs wr_4 hP hS => ?_)
  rcases wr_4 with rfl | ⟨ff4, ss4, dd4, hff4, hss4, hdd4, rfl, rfl, rfl, rfl⟩
  · refine lv_if_eq (tgt := 40) hx hb dX12_lies_7 (by decide) (fun _ => ?_) (fun c => absurd c (by decide))
    refine lv_iconst (v := 0) hx hb dX12_lies_40 (by decide) ?_
    rw [hQ]
    exact W.zret (v := 0) hx hb hr (by decide) (fun tt9 ht hW => ⟨⟨(0 : Int32), ((m_across : Nat → Int32), (m_deep : Nat → Int32), (m_isGone : Nat → Int32), (m_isKnown : Nat → Int32)), rfl, (lf_X12_lies_f_5 h q im ms mk m_across m_deep m_isGone m_isKnown n1 n2 n3 n4 n5 hf_ms hf_mk hms hmk hm3 hac), ⟨by rw [ht]; exact hP, hD⟩⟩, hS.F ht⟩) hS.2.2 dX12_lies_41 hlocks
  · refine lv_if_eq (tgt := 40) hx hb dX12_lies_7 (by decide) (fun c => absurd c (by decide)) (fun _ => ?_)
    refine lv_iload hx hb dX12_lies_10 (lv_at hl 4 rfl) ?_
    refine lv_i2l (v := n4.toInt64) hx hb dX12_lies_12 rfl ?_
    refine lv_ldc2 (v := (-3000)) hx hb hown (hts _ k_1811) dX12_lies_13 ?_
    refine lv_ldc2 (v := 3000) hx hb hown (hts _ k_1812) dX12_lies_16 ?_
    refine eRi (va_runS (As := [.long n4.toInt64, .long (-3000), .long 3000]) (rest := []) ⟨hx, hb, hml, hown, hts⟩ (c_X12_isIn l D cI cB cZ cJ tx n4.toInt64 (-3000) 3000 H.size) (zS hts k_1602 v_X12_isIn ⟨Nat.le_of_ble_eq_true rfl, Nat.le_of_ble_eq_true rfl⟩) (px0 hK) rfl rfl hl.1 rfl (lv_room (Nat.le_of_ble_eq_true rfl)) dX12_lies_19 ⟨Nat.le_of_ble_eq_true rfl, Nat.le_of_ble_eq_true rfl⟩) hP hS hA (fun r_6 H locs wr_6 hP hS => ?_)
    have wr_6 : r_6 = bi (((-3000) : Int32) ≤ n4 ∧ n4 ≤ 3000) := isIn32 (lo := (-3000)) (hi := 3000) (by decide) (by decide) wr_6
    subst wr_6
    refine lv_bi_eq (tgt := 40) hx hb dX12_lies_22 (by decide) (fun c_7 => ?_) (fun c_7 => ?_)
    · refine lv_iconst (v := 0) hx hb dX12_lies_40 (by decide) ?_
      rw [hQ]
      exact W.zret (v := 0) hx hb hr (by decide) (fun tt9 ht hW => ⟨⟨(0 : Int32), ((m_across : Nat → Int32), (m_deep : Nat → Int32), (m_isGone : Nat → Int32), (m_isKnown : Nat → Int32)), rfl, (lf_X12_lies_f_8 h q im ms mk m_across m_deep m_isGone m_isKnown (nI ff4) (nI ss4) (nI dd4) n4 n5 hf_ms hf_mk hms hmk hm3 hac ff4 ss4 dd4 hff4 hss4 hdd4 c_7), ⟨by rw [ht]; exact hP, hD⟩⟩, hS.F ht⟩) hS.2.2 dX12_lies_41 hlocks
    · refine lv_iload hx hb dX12_lies_25 (lv_at hl 5 rfl) ?_
      refine lv_i2l (v := n5.toInt64) hx hb dX12_lies_27 rfl ?_
      refine lv_ldc2 (v := (-3000)) hx hb hown (hts _ k_1811) dX12_lies_28 ?_
      refine lv_ldc2 (v := 3000) hx hb hown (hts _ k_1812) dX12_lies_31 ?_
      refine eRi (va_runS (As := [.long n5.toInt64, .long (-3000), .long 3000]) (rest := []) ⟨hx, hb, hml, hown, hts⟩ (c_X12_isIn l D cI cB cZ cJ tx n5.toInt64 (-3000) 3000 H.size) (zS hts k_1602 v_X12_isIn ⟨Nat.le_of_ble_eq_true rfl, Nat.le_of_ble_eq_true rfl⟩) (px0 hK) rfl rfl hl.1 rfl (lv_room (Nat.le_of_ble_eq_true rfl)) dX12_lies_34 ⟨Nat.le_of_ble_eq_true rfl, Nat.le_of_ble_eq_true rfl⟩) hP hS hA (fun r_9 H locs wr_9 hP hS => ?_)
      have wr_9 : r_9 = bi (((-3000) : Int32) ≤ n5 ∧ n5 ≤ 3000) := isIn32 (lo := (-3000)) (hi := 3000) (by decide) (by decide) wr_9
      subst wr_9
      refine lv_bi_ne (tgt := 42) hx hb dX12_lies_37 (by decide) (fun c_10 => ?_) (fun c_10 => ?_)
      · refine lv_aload_n hx hb dX12_lies_42 rfl (lv_at hl 0 rfl) ?_
        refine va_get (D := D) (ci := 12) (v := .ref (q 44)) (C := RX12) (T := TX12) (N := 81) hx hb hts inT_X12 hown hK.1 hP 0 rfl rfl 44 (by decide) (hts _ k_1397) (fun _ h9 => h9) rfl dX12_lies_43 ?_
        refine lv_iload_n hx hb dX12_lies_46 rfl (lv_at hl 1 rfl) ?_
        refine lv_iload_n hx hb dX12_lies_47 rfl (lv_at hl 2 rfl) ?_
        refine lv_iload_n hx hb dX12_lies_48 rfl (lv_at hl 3 rfl) ?_
        refine eRi (va_runS (As := [.int (nI ff4), .int (nI ss4), .int (nI dd4)]) (rest := [.ref (q 44)]) ⟨hx, hb, hml, hown, hts⟩ (c_X12_cellOf l D cI cB cZ cJ tx ff4 ss4 dd4 H.size) (zS hts k_1735 v_X12_cellOf ⟨Nat.le_of_ble_eq_true rfl, Nat.le_of_ble_eq_true rfl⟩) (px0 hK) rfl rfl hl.1 rfl (lv_room (Nat.le_of_ble_eq_true rfl)) dX12_lies_49 ⟨Nat.le_of_ble_eq_true rfl, Nat.le_of_ble_eq_true rfl⟩) hP hS hA (fun r_11 H locs wr_11 hP hS => ?_)
        subst wr_11
        refine lv_iload hx hb dX12_lies_52 (lv_at hl 4 rfl) ?_
        refine su_i (j := (16 * ff4 + 2 * ss4 + dd4)) hx hb hK hP hD hS 1 rfl (lf_X12_lies_f_13 h q im ms mk m_across m_deep m_isGone m_isKnown (nI ff4) (nI ss4) (nI dd4) n4 n5 hf_ms hf_mk hms hmk hm3 hac ff4 ss4 dd4 hff4 hss4 hdd4 c_7 c_10) (by first | decide | assumption) dX12_lies_54 (fun f_12 H locs ef_12 hP hD hS => ?_)
        have hP : va_P D vwCl [(h, .inr (12, mG q im)), (q 44, .inl (cI, 384, .inl f_12)), (q 45, .inl (cI, 384, .inl m_deep)), (q 46, .inl (cZ, 384, .inl m_isGone)), (q 66, .inl (cZ, 8, .inl m_isKnown))] H := hP
        have hD : va_D A [(h, .inr (12, mG q im)), (q 44, .inl (cI, 384, .inl f_12)), (q 45, .inl (cI, 384, .inl m_deep)), (q 46, .inl (cZ, 384, .inl m_isGone)), (q 66, .inl (cZ, 8, .inl m_isKnown))] := hD
        refine lv_aload_n hx hb dX12_lies_55 rfl (lv_at hl 0 rfl) ?_
        refine va_get (D := D) (ci := 12) (v := .ref (q 45)) (C := RX12) (T := TX12) (N := 81) hx hb hts inT_X12 hown hK.1 hP 0 rfl rfl 45 (by decide) (hts _ k_1398) (fun _ h9 => h9) rfl dX12_lies_56 ?_
        refine lv_iload_n hx hb dX12_lies_59 rfl (lv_at hl 1 rfl) ?_
        refine lv_iload_n hx hb dX12_lies_60 rfl (lv_at hl 2 rfl) ?_
        refine lv_iload_n hx hb dX12_lies_61 rfl (lv_at hl 3 rfl) ?_
        refine eRi (va_runS (As := [.int (nI ff4), .int (nI ss4), .int (nI dd4)]) (rest := [.ref (q 45)]) ⟨hx, hb, hml, hown, hts⟩ (c_X12_cellOf l D cI cB cZ cJ tx ff4 ss4 dd4 H.size) (zS hts k_1735 v_X12_cellOf ⟨Nat.le_of_ble_eq_true rfl, Nat.le_of_ble_eq_true rfl⟩) (px0 hK) rfl rfl hl.1 rfl (lv_room (Nat.le_of_ble_eq_true rfl)) dX12_lies_62 ⟨Nat.le_of_ble_eq_true rfl, Nat.le_of_ble_eq_true rfl⟩) hP hS hA (fun r_14 H locs wr_14 hP hS => ?_)
        subst wr_14
        refine lv_iload hx hb dX12_lies_65 (lv_at hl 5 rfl) ?_
        refine st_i hx hb hK hP hD hS 2 rfl (lf_X12_lies_f_16 h q im ms mk m_across m_deep m_isGone m_isKnown (nI ff4) (nI ss4) (nI dd4) n4 n5 hf_ms hf_mk hms hmk hm3 hac ff4 ss4 dd4 hff4 hss4 hdd4 c_7 c_10 f_12 ef_12) dX12_lies_67 (fun f_15 H locs hP hD hS => ?_)
        have hP : va_P D vwCl [(h, .inr (12, mG q im)), (q 44, .inl (cI, 384, .inl f_12)), (q 45, .inl (cI, 384, .inl f_15)), (q 46, .inl (cZ, 384, .inl m_isGone)), (q 66, .inl (cZ, 8, .inl m_isKnown))] H := hP
        have hD : va_D A [(h, .inr (12, mG q im)), (q 44, .inl (cI, 384, .inl f_12)), (q 45, .inl (cI, 384, .inl f_15)), (q 46, .inl (cZ, 384, .inl m_isGone)), (q 66, .inl (cZ, 8, .inl m_isKnown))] := hD
        refine lv_aload_n hx hb dX12_lies_68 rfl (lv_at hl 0 rfl) ?_
        refine va_get (D := D) (ci := 12) (v := .ref (q 46)) (C := RX12) (T := TX12) (N := 81) hx hb hts inT_X12 hown hK.1 hP 0 rfl rfl 46 (by decide) (hts _ k_1399) (fun _ h9 => h9) rfl dX12_lies_69 ?_
        refine lv_iload_n hx hb dX12_lies_72 rfl (lv_at hl 1 rfl) ?_
        refine lv_iload_n hx hb dX12_lies_73 rfl (lv_at hl 2 rfl) ?_
        refine lv_iload_n hx hb dX12_lies_74 rfl (lv_at hl 3 rfl) ?_
        refine eRi (va_runS (As := [.int (nI ff4), .int (nI ss4), .int (nI dd4)]) (rest := [.ref (q 46)]) ⟨hx, hb, hml, hown, hts⟩ (c_X12_cellOf l D cI cB cZ cJ tx ff4 ss4 dd4 H.size) (zS hts k_1735 v_X12_cellOf ⟨Nat.le_of_ble_eq_true rfl, Nat.le_of_ble_eq_true rfl⟩) (px0 hK) rfl rfl hl.1 rfl (lv_room (Nat.le_of_ble_eq_true rfl)) dX12_lies_75 ⟨Nat.le_of_ble_eq_true rfl, Nat.le_of_ble_eq_true rfl⟩) hP hS hA (fun r_17 H locs wr_17 hP hS => ?_)
        subst wr_17
        refine lv_iconst (v := 0) hx hb dX12_lies_78 (by decide) ?_
        refine st_z hx hb hK hP hD hS 3 rfl (lf_X12_lies_f_19 h q im ms mk m_across m_deep m_isGone m_isKnown (nI ff4) (nI ss4) (nI dd4) n4 n5 hf_ms hf_mk hms hmk hm3 hac ff4 ss4 dd4 hff4 hss4 hdd4 c_7 c_10 f_12 ef_12 f_15) dX12_lies_79 (fun f_18 H locs hP hD hS => ?_)
        have hP : va_P D vwCl [(h, .inr (12, mG q im)), (q 44, .inl (cI, 384, .inl f_12)), (q 45, .inl (cI, 384, .inl f_15)), (q 46, .inl (cZ, 384, .inl f_18)), (q 66, .inl (cZ, 8, .inl m_isKnown))] H := hP
        have hD : va_D A [(h, .inr (12, mG q im)), (q 44, .inl (cI, 384, .inl f_12)), (q 45, .inl (cI, 384, .inl f_15)), (q 46, .inl (cZ, 384, .inl f_18)), (q 66, .inl (cZ, 8, .inl m_isKnown))] := hD
        refine lv_aload_n hx hb dX12_lies_80 rfl (lv_at hl 0 rfl) ?_
        refine eWvP (va_runV (As := []) (rest := []) ⟨hx, hb, hml, hown, hts⟩ (c_X12_changes l D cI cB cZ cJ tx h q im m_isKnown H.size) (zV hts k_1765 v_X12_changes ⟨Nat.le_of_ble_eq_true rfl, Nat.le_of_ble_eq_true rfl⟩) (pV (pxS hK hP hD [0, 4] (by decide) rfl) hK hP 0 rfl rfl) rfl rfl hl.1 rfl (lv_room (Nat.le_of_ble_eq_true rfl)) dX12_lies_81 ⟨Nat.le_of_ble_eq_true rfl, Nat.le_of_ble_eq_true rfl⟩) hP hD hS hA [0, 4] [some 0, none, none, none, some 1] rfl (by decide +kernel) (fun _ => rfl) (fun u_21 H locs wr_20 hP hD hS => ?_)
        obtain ⟨m_isKnown_21, rfl⟩ : ∃ z, z = u_21 := ⟨_, rfl⟩
        have hP : va_P D vwCl [(h, .inr (12, mG q im)), (q 44, .inl (cI, 384, .inl f_12)), (q 45, .inl (cI, 384, .inl f_15)), (q 46, .inl (cZ, 384, .inl f_18)), (q 66, .inl (cZ, 8, .inl m_isKnown_21))] H := hP
        have hD : va_D A [(h, .inr (12, mG q im)), (q 44, .inl (cI, 384, .inl f_12)), (q 45, .inl (cI, 384, .inl f_15)), (q 46, .inl (cZ, 384, .inl f_18)), (q 66, .inl (cZ, 8, .inl m_isKnown_21))] := hD
        refine lv_iconst (v := 1) hx hb dX12_lies_84 (by decide) ?_
        rw [hQ]
        exact W.zret (v := 1) hx hb hr (by decide) (fun tt9 ht hW => ⟨⟨(1 : Int32), ((f_12 : Nat → Int32), (f_15 : Nat → Int32), (f_18 : Nat → Int32), (m_isKnown_21 : Nat → Int32)), rfl, (lf_X12_lies_f_22 h q im ms mk m_across m_deep m_isGone m_isKnown (nI ff4) (nI ss4) (nI dd4) n4 n5 hf_ms hf_mk hms hmk hm3 hac ff4 ss4 dd4 hff4 hss4 hdd4 c_7 c_10 f_12 ef_12 f_15 f_18 m_isKnown_21), ⟨by rw [ht]; exact hP, hD⟩⟩, hS.F ht⟩) hS.2.2 dX12_lies_85 hlocks
      · refine lv_iconst (v := 0) hx hb dX12_lies_40 (by decide) ?_
        rw [hQ]
        exact W.zret (v := 0) hx hb hr (by decide) (fun tt9 ht hW => ⟨⟨(0 : Int32), ((m_across : Nat → Int32), (m_deep : Nat → Int32), (m_isGone : Nat → Int32), (m_isKnown : Nat → Int32)), rfl, (lf_X12_lies_f_23 h q im ms mk m_across m_deep m_isGone m_isKnown (nI ff4) (nI ss4) (nI dd4) n4 n5 hf_ms hf_mk hms hmk hm3 hac ff4 ss4 dd4 hff4 hss4 hdd4 c_7 c_10), ⟨by rw [ht]; exact hP, hD⟩⟩, hS.F ht⟩) hS.2.2 dX12_lies_41 hlocks
