theorem lf_X12_isIn_2 (v : Int64) (lo : Int64) (hi : Int64) (c_1 : lg_cmp v lo < 0) : (0 : Int32) = bi (lo ≤ v ∧ v ≤ hi) := by
  simp only [lg_cmp_lt, lg_cmp_gt] at *; first | rfl | (simp only [bi]; rw [if_pos (by grind)]; done) | (simp only [bi]; rw [if_neg (by grind)]; done) | grind
theorem lf_X12_isIn_4 (v : Int64) (lo : Int64) (hi : Int64) (c_1 : ¬ lg_cmp v lo < 0) (c_3 : 0 < lg_cmp v hi) : (0 : Int32) = bi (lo ≤ v ∧ v ≤ hi) := by
  simp only [lg_cmp_lt, lg_cmp_gt] at *; first | rfl | (simp only [bi]; rw [if_pos (by grind)]; done) | (simp only [bi]; rw [if_neg (by grind)]; done) | grind
theorem lf_X12_isIn_5 (v : Int64) (lo : Int64) (hi : Int64) (c_1 : ¬ lg_cmp v lo < 0) (c_3 : ¬ 0 < lg_cmp v hi) : (1 : Int32) = bi (lo ≤ v ∧ v ≤ hi) := by
  simp only [lg_cmp_lt, lg_cmp_gt] at *; first | rfl | (simp only [bi]; rw [if_pos (by grind)]; done) | (simp only [bi]; rw [if_neg (by grind)]; done) | grind
set_option maxHeartbeats 4000000 in
set_option maxRecDepth 100000 in
theorem c_X12_isIn (l : Launch) (D : va_G) (cI cB cZ cJ : ClassId) (tx : List (ClassId × FieldType)) (v : Int64) (lo : Int64) (hi : Int64) : RdI l D cI cB cZ cJ tx yX12_isIn cX12_isIn 6 (some .boolean) 0 [.long v, .long lo, .long hi] [] (fun r => r = bi (lo ≤ v ∧ v ≤ hi)) := by
  refine rdi_of2 (by decide) (Nat.le_of_ble_eq_true rfl) ?_
  intro p e s m below meth c A ls H locs hC hK hP hA hS hl
  obtain ⟨hx, hb, hr, hml, hown, hts, hlocks, hin⟩ := hC
  have hown : s.vm.findClass RX12 = some m.cls := hown
  have hl : lv_has ls 6 [(0, .long v), (2, .long lo), (4, .long hi)] := hl
  refine lv_lload_n hx hb dX12_isIn_0 rfl (lv_at hl 0 rfl) ?_
  refine lv_lload_n hx hb dX12_isIn_1 rfl (lv_at hl 1 rfl) ?_
  refine W.lcmp hx hb dX12_isIn_2 ?_
  refine lv_if_lt (tgt := 17) hx hb dX12_isIn_3 (by decide) (fun c_1 => ?_) (fun c_1 => ?_)
  · refine lv_iconst (v := 0) hx hb dX12_isIn_17 (by decide) ?_
    exact W.zret (v := 0) hx hb hr (by decide) (fun t ht hW => ⟨⟨(0 : Int32), (), rfl, (lf_X12_isIn_2 v lo hi c_1), trivial⟩, hS.F ht⟩) hS.2.2 dX12_isIn_18 hlocks
  · refine lv_lload_n hx hb dX12_isIn_6 rfl (lv_at hl 0 rfl) ?_
    refine lv_lload hx hb dX12_isIn_7 (lv_at hl 2 rfl) ?_
    refine W.lcmp hx hb dX12_isIn_9 ?_
    refine lv_if_gt (tgt := 17) hx hb dX12_isIn_10 (by decide) (fun c_3 => ?_) (fun c_3 => ?_)
    · refine lv_iconst (v := 0) hx hb dX12_isIn_17 (by decide) ?_
      exact W.zret (v := 0) hx hb hr (by decide) (fun t ht hW => ⟨⟨(0 : Int32), (), rfl, (lf_X12_isIn_4 v lo hi c_1 c_3), trivial⟩, hS.F ht⟩) hS.2.2 dX12_isIn_18 hlocks
    · refine lv_iconst (v := 1) hx hb dX12_isIn_13 (by decide) ?_
      refine lv_goto (tgt := 18) hx hb dX12_isIn_14 (by decide) ?_
      exact W.zret (v := 1) hx hb hr (by decide) (fun t ht hW => ⟨⟨(1 : Int32), (), rfl, (lf_X12_isIn_5 v lo hi c_1 c_3), trivial⟩, hS.F ht⟩) hS.2.2 dX12_isIn_18 hlocks

theorem lf_X12_isStation_2 (h : Nat) (q : Nat → Nat) (i : Nat → Int32) (n1 : Int32) (h2 : i 2 = 0) : (0 : Int32) = 0 := by
  first | rfl | (simp only [bi]; rw [if_pos (by grind)]; done) | (simp only [bi]; rw [if_neg (by grind)]; done) | grind
set_option maxHeartbeats 4000000 in
set_option maxRecDepth 100000 in
theorem c_X12_isStation (l : Launch) (D : va_G) (cI cB cZ cJ : ClassId) (tx : List (ClassId × FieldType)) (h : Nat) (q : Nat → Nat) (i : Nat → Int32) (n1 : Int32) (h2 : i 2 = 0) : RdI l D cI cB cZ cJ tx yX12_isStation cX12_isStation 2 (some .boolean) 1 [.ref h, .int n1] [(h, .inr (12, mG q i))] (fun r => r = 0) := by
  refine rdi_of2 (by decide) (Nat.le_of_ble_eq_true rfl) ?_
  intro p e s m below meth c A ls H locs hC hK hP hA hS hl
  obtain ⟨hx, hb, hr, hml, hown, hts, hlocks, hin⟩ := hC
  have hown : s.vm.findClass RX12 = some m.cls := hown
  have hl : lv_has ls 2 [(0, .ref h), (1, .int n1)] := hl
  refine lv_iload_n hx hb dX12_isStation_0 rfl (lv_at hl 1 rfl) ?_
  refine lv_i2l (v := n1.toInt64) hx hb dX12_isStation_1 rfl ?_
  refine lv_lconst (v := 0) hx hb dX12_isStation_2 (by decide) ?_
  refine lv_aload_n hx hb dX12_isStation_3 rfl (lv_at hl 0 rfl) ?_
  refine va_get (D := D) (ci := 12) (v := .int (i 2)) (C := RX12) (T := TX12) (N := 81) hx hb hts inT_X12 hown hK.1 hP 0 rfl rfl 2 (by decide) (hts _ k_1355) (fun _ h9 => h9) rfl dX12_isStation_4 ?_
  refine lv_topv (y := 0) h2 ?_
  refine lv_iconst (v := 1) hx hb dX12_isStation_7 (by decide) ?_
  refine lv_isub hx hb dX12_isStation_8 ?_
  refine lv_topv (y := (-1)) (by decide) ?_
  refine lv_i2l (v := (-1)) hx hb dX12_isStation_9 (by decide) ?_
  refine eRi (va_runS (As := [.long n1.toInt64, .long 0, .long (-1)]) (rest := []) ⟨hx, hb, hml, hown, hts⟩ (c_X12_isIn l D cI cB cZ cJ tx n1.toInt64 0 (-1) H.size) (zS hts k_1602 v_X12_isIn ⟨Nat.le_of_ble_eq_true rfl, Nat.le_of_ble_eq_true rfl⟩) (px0 hK) rfl rfl hl.1 rfl (lv_room (Nat.le_of_ble_eq_true rfl)) dX12_isStation_10 ⟨Nat.le_of_ble_eq_true rfl, Nat.le_of_ble_eq_true rfl⟩) hP hS hA (fun r_1 H locs wr_1 hP hS => ?_)
  have wr_1 : r_1 = bi ((0 : Int32) ≤ n1 ∧ n1 ≤ (-1)) := isIn32 (lo := 0) (hi := (-1)) (by decide) (by decide) wr_1
  subst wr_1
  refine lv_topv (y := 0) (bi_no (by decide)) ?_
  exact W.zret (v := 0) hx hb hr (by decide) (fun t ht hW => ⟨⟨(0 : Int32), (), rfl, (lf_X12_isStation_2 h q i n1 h2), trivial⟩, hS.F ht⟩) hS.2.2 dX12_isStation_13 hlocks

theorem lf_X12_isStrake_2 (h : Nat) (q : Nat → Nat) (i : Nat → Int32) (n1 : Int32) (h3 : i 3 = 0) : (0 : Int32) = 0 := by
  first | rfl | (simp only [bi]; rw [if_pos (by grind)]; done) | (simp only [bi]; rw [if_neg (by grind)]; done) | grind
set_option maxHeartbeats 4000000 in
set_option maxRecDepth 100000 in
theorem c_X12_isStrake (l : Launch) (D : va_G) (cI cB cZ cJ : ClassId) (tx : List (ClassId × FieldType)) (h : Nat) (q : Nat → Nat) (i : Nat → Int32) (n1 : Int32) (h3 : i 3 = 0) : RdI l D cI cB cZ cJ tx yX12_isStrake cX12_isStrake 2 (some .boolean) 1 [.ref h, .int n1] [(h, .inr (12, mG q i))] (fun r => r = 0) := by
  refine rdi_of2 (by decide) (Nat.le_of_ble_eq_true rfl) ?_
  intro p e s m below meth c A ls H locs hC hK hP hA hS hl
  obtain ⟨hx, hb, hr, hml, hown, hts, hlocks, hin⟩ := hC
  have hown : s.vm.findClass RX12 = some m.cls := hown
  have hl : lv_has ls 2 [(0, .ref h), (1, .int n1)] := hl
  refine lv_iload_n hx hb dX12_isStrake_0 rfl (lv_at hl 1 rfl) ?_
  refine lv_i2l (v := n1.toInt64) hx hb dX12_isStrake_1 rfl ?_
  refine lv_lconst (v := 0) hx hb dX12_isStrake_2 (by decide) ?_
  refine lv_aload_n hx hb dX12_isStrake_3 rfl (lv_at hl 0 rfl) ?_
  refine va_get (D := D) (ci := 12) (v := .int (i 3)) (C := RX12) (T := TX12) (N := 81) hx hb hts inT_X12 hown hK.1 hP 0 rfl rfl 3 (by decide) (hts _ k_1356) (fun _ h9 => h9) rfl dX12_isStrake_4 ?_
  refine lv_topv (y := 0) h3 ?_
  refine lv_iconst (v := 1) hx hb dX12_isStrake_7 (by decide) ?_
  refine lv_isub hx hb dX12_isStrake_8 ?_
  refine lv_topv (y := (-1)) (by decide) ?_
  refine lv_i2l (v := (-1)) hx hb dX12_isStrake_9 (by decide) ?_
  refine eRi (va_runS (As := [.long n1.toInt64, .long 0, .long (-1)]) (rest := []) ⟨hx, hb, hml, hown, hts⟩ (c_X12_isIn l D cI cB cZ cJ tx n1.toInt64 0 (-1) H.size) (zS hts k_1602 v_X12_isIn ⟨Nat.le_of_ble_eq_true rfl, Nat.le_of_ble_eq_true rfl⟩) (px0 hK) rfl rfl hl.1 rfl (lv_room (Nat.le_of_ble_eq_true rfl)) dX12_isStrake_10 ⟨Nat.le_of_ble_eq_true rfl, Nat.le_of_ble_eq_true rfl⟩) hP hS hA (fun r_1 H locs wr_1 hP hS => ?_)
  have wr_1 : r_1 = bi ((0 : Int32) ≤ n1 ∧ n1 ≤ (-1)) := isIn32 (lo := 0) (hi := (-1)) (by decide) (by decide) wr_1
  subst wr_1
  refine lv_topv (y := 0) (bi_no (by decide)) ?_
  exact W.zret (v := 0) hx hb hr (by decide) (fun t ht hW => ⟨⟨(0 : Int32), (), rfl, (lf_X12_isStrake_2 h q i n1 h3), trivial⟩, hS.F ht⟩) hS.2.2 dX12_isStrake_13 hlocks

theorem lf_X12_isRivet_2 (h : Nat) (q : Nat → Nat) (i : Nat → Int32) (n1 : Int32) (n2 : Int32) (n3 : Int32) (h2 : i 2 = 0) : (0 : Int32) = 0 := by
  first | rfl | (simp only [bi]; rw [if_pos (by grind)]; done) | (simp only [bi]; rw [if_neg (by grind)]; done) | grind
set_option maxHeartbeats 4000000 in
set_option maxRecDepth 100000 in
theorem c_X12_isRivet (l : Launch) (D : va_G) (cI cB cZ cJ : ClassId) (tx : List (ClassId × FieldType)) (h : Nat) (q : Nat → Nat) (i : Nat → Int32) (n1 : Int32) (n2 : Int32) (n3 : Int32) (h2 : i 2 = 0) : RdI l D cI cB cZ cJ tx yX12_isRivet cX12_isRivet 4 (some .boolean) 2 [.ref h, .int n1, .int n2, .int n3] [(h, .inr (12, mG q i))] (fun r => r = 0) := by
  refine rdi_of2 (by decide) (Nat.le_of_ble_eq_true rfl) ?_
  intro p e s m below meth c A ls H locs hC hK hP hA hS hl
  obtain ⟨hx, hb, hr, hml, hown, hts, hlocks, hin⟩ := hC
  have hown : s.vm.findClass RX12 = some m.cls := hown
  have hl : lv_has ls 4 [(0, .ref h), (1, .int n1), (2, .int n2), (3, .int n3)] := hl
  refine lv_aload_n hx hb dX12_isRivet_0 rfl (lv_at hl 0 rfl) ?_
  refine lv_iload_n hx hb dX12_isRivet_1 rfl (lv_at hl 1 rfl) ?_
  refine eRi (va_runV (As := [.int n1]) (rest := []) ⟨hx, hb, hml, hown, hts⟩ (c_X12_isStation l D cI cB cZ cJ tx h q i n1 h2 H.size) (zV hts k_1803 v_X12_isStation ⟨Nat.le_of_ble_eq_true rfl, Nat.le_of_ble_eq_true rfl⟩) (pV (px1 hK hP 0 rfl) hK hP 0 rfl rfl) rfl rfl hl.1 rfl (lv_room (Nat.le_of_ble_eq_true rfl)) dX12_isRivet_2 ⟨Nat.le_of_ble_eq_true rfl, Nat.le_of_ble_eq_true rfl⟩) hP hS hA (fun r_1 H locs wr_1 hP hS => ?_)
  subst wr_1
  refine lv_if_eq (tgt := 30) hx hb dX12_isRivet_5 (by decide) (fun _ => ?_) (fun c => absurd c (by decide))
  refine lv_iconst (v := 0) hx hb dX12_isRivet_30 (by decide) ?_
  exact W.zret (v := 0) hx hb hr (by decide) (fun t ht hW => ⟨⟨(0 : Int32), (), rfl, (lf_X12_isRivet_2 h q i n1 n2 n3 h2), trivial⟩, hS.F ht⟩) hS.2.2 dX12_isRivet_31 hlocks

theorem lf_X12_isDrawing_2 (h : Nat) (q : Nat → Nat) (i : Nat → Int32) (n1 : Int32) (h50 : i 50 = 0) : (0 : Int32) = 0 := by
  first | rfl | (simp only [bi]; rw [if_pos (by grind)]; done) | (simp only [bi]; rw [if_neg (by grind)]; done) | grind
set_option maxHeartbeats 4000000 in
set_option maxRecDepth 100000 in
theorem c_X12_isDrawing (l : Launch) (D : va_G) (cI cB cZ cJ : ClassId) (tx : List (ClassId × FieldType)) (h : Nat) (q : Nat → Nat) (i : Nat → Int32) (n1 : Int32) (h50 : i 50 = 0) : RdI l D cI cB cZ cJ tx yX12_isDrawing cX12_isDrawing 2 (some .boolean) 1 [.ref h, .int n1] [(h, .inr (12, mG q i))] (fun r => r = 0) := by
  refine rdi_of2 (by decide) (Nat.le_of_ble_eq_true rfl) ?_
  intro p e s m below meth c A ls H locs hC hK hP hA hS hl
  obtain ⟨hx, hb, hr, hml, hown, hts, hlocks, hin⟩ := hC
  have hown : s.vm.findClass RX12 = some m.cls := hown
  have hl : lv_has ls 2 [(0, .ref h), (1, .int n1)] := hl
  refine lv_iload_n hx hb dX12_isDrawing_0 rfl (lv_at hl 1 rfl) ?_
  refine lv_i2l (v := n1.toInt64) hx hb dX12_isDrawing_1 rfl ?_
  refine lv_lconst (v := 0) hx hb dX12_isDrawing_2 (by decide) ?_
  refine lv_aload_n hx hb dX12_isDrawing_3 rfl (lv_at hl 0 rfl) ?_
  refine va_get (D := D) (ci := 12) (v := .int (i 50)) (C := RX12) (T := TX12) (N := 81) hx hb hts inT_X12 hown hK.1 hP 0 rfl rfl 50 (by decide) (hts _ k_1403) (fun _ h9 => h9) rfl dX12_isDrawing_4 ?_
  refine lv_topv (y := 0) h50 ?_
  refine lv_iconst (v := 1) hx hb dX12_isDrawing_7 (by decide) ?_
  refine lv_isub hx hb dX12_isDrawing_8 ?_
  refine lv_topv (y := (-1)) (by decide) ?_
  refine lv_i2l (v := (-1)) hx hb dX12_isDrawing_9 (by decide) ?_
  refine eRi (va_runS (As := [.long n1.toInt64, .long 0, .long (-1)]) (rest := []) ⟨hx, hb, hml, hown, hts⟩ (c_X12_isIn l D cI cB cZ cJ tx n1.toInt64 0 (-1) H.size) (zS hts k_1602 v_X12_isIn ⟨Nat.le_of_ble_eq_true rfl, Nat.le_of_ble_eq_true rfl⟩) (px0 hK) rfl rfl hl.1 rfl (lv_room (Nat.le_of_ble_eq_true rfl)) dX12_isDrawing_10 ⟨Nat.le_of_ble_eq_true rfl, Nat.le_of_ble_eq_true rfl⟩) hP hS hA (fun r_1 H locs wr_1 hP hS => ?_)
  have wr_1 : r_1 = bi ((0 : Int32) ≤ n1 ∧ n1 ≤ (-1)) := isIn32 (lo := 0) (hi := (-1)) (by decide) (by decide) wr_1
  subst wr_1
  refine lv_topv (y := 0) (bi_no (by decide)) ?_
  exact W.zret (v := 0) hx hb hr (by decide) (fun t ht hW => ⟨⟨(0 : Int32), (), rfl, (lf_X12_isDrawing_2 h q i n1 h50), trivial⟩, hS.F ht⟩) hS.2.2 dX12_isDrawing_13 hlocks

theorem lf_X12_areTwo_2 (h : Nat) (q : Nat → Nat) (i : Nat → Int32) (n1 : Int32) (n2 : Int32) (h50 : i 50 = 0) : (0 : Int32) = 0 := by
  first | rfl | (simp only [bi]; rw [if_pos (by grind)]; done) | (simp only [bi]; rw [if_neg (by grind)]; done) | grind
set_option maxHeartbeats 4000000 in
set_option maxRecDepth 100000 in
theorem c_X12_areTwo (l : Launch) (D : va_G) (cI cB cZ cJ : ClassId) (tx : List (ClassId × FieldType)) (h : Nat) (q : Nat → Nat) (i : Nat → Int32) (n1 : Int32) (n2 : Int32) (h50 : i 50 = 0) : RdI l D cI cB cZ cJ tx yX12_areTwo cX12_areTwo 3 (some .boolean) 2 [.ref h, .int n1, .int n2] [(h, .inr (12, mG q i))] (fun r => r = 0) := by
  refine rdi_of2 (by decide) (Nat.le_of_ble_eq_true rfl) ?_
  intro p e s m below meth c A ls H locs hC hK hP hA hS hl
  obtain ⟨hx, hb, hr, hml, hown, hts, hlocks, hin⟩ := hC
  have hown : s.vm.findClass RX12 = some m.cls := hown
  have hl : lv_has ls 3 [(0, .ref h), (1, .int n1), (2, .int n2)] := hl
  refine lv_aload_n hx hb dX12_areTwo_0 rfl (lv_at hl 0 rfl) ?_
  refine lv_iload_n hx hb dX12_areTwo_1 rfl (lv_at hl 1 rfl) ?_
  refine eRi (va_runV (As := [.int n1]) (rest := []) ⟨hx, hb, hml, hown, hts⟩ (c_X12_isDrawing l D cI cB cZ cJ tx h q i n1 h50 H.size) (zV hts k_1841 v_X12_isDrawing ⟨Nat.le_of_ble_eq_true rfl, Nat.le_of_ble_eq_true rfl⟩) (pV (px1 hK hP 0 rfl) hK hP 0 rfl rfl) rfl rfl hl.1 rfl (lv_room (Nat.le_of_ble_eq_true rfl)) dX12_areTwo_2 ⟨Nat.le_of_ble_eq_true rfl, Nat.le_of_ble_eq_true rfl⟩) hP hS hA (fun r_1 H locs wr_1 hP hS => ?_)
  subst wr_1
  refine lv_if_eq (tgt := 25) hx hb dX12_areTwo_5 (by decide) (fun _ => ?_) (fun c => absurd c (by decide))
  refine lv_iconst (v := 0) hx hb dX12_areTwo_25 (by decide) ?_
  exact W.zret (v := 0) hx hb hr (by decide) (fun t ht hW => ⟨⟨(0 : Int32), (), rfl, (lf_X12_areTwo_2 h q i n1 n2 h50), trivial⟩, hS.F ht⟩) hS.2.2 dX12_areTwo_26 hlocks

theorem lf_X12_isBent_2 (h : Nat) (q : Nat → Nat) (i : Nat → Int32) (n1 : Int32) (n2 : Int32) (h3 : i 3 = 0) : (0 : Int32) = 0 := by
  first | rfl | (simp only [bi]; rw [if_pos (by grind)]; done) | (simp only [bi]; rw [if_neg (by grind)]; done) | grind
set_option maxHeartbeats 4000000 in
set_option maxRecDepth 100000 in
theorem c_X12_isBent (l : Launch) (D : va_G) (cI cB cZ cJ : ClassId) (tx : List (ClassId × FieldType)) (h : Nat) (q : Nat → Nat) (i : Nat → Int32) (n1 : Int32) (n2 : Int32) (h3 : i 3 = 0) : RdI l D cI cB cZ cJ tx yX12_isBent cX12_isBent 3 (some .boolean) 2 [.ref h, .int n1, .int n2] [(h, .inr (12, mG q i))] (fun r => r = 0) := by
  refine rdi_of2 (by decide) (Nat.le_of_ble_eq_true rfl) ?_
  intro p e s m below meth c A ls H locs hC hK hP hA hS hl
  obtain ⟨hx, hb, hr, hml, hown, hts, hlocks, hin⟩ := hC
  have hown : s.vm.findClass RX12 = some m.cls := hown
  have hl : lv_has ls 3 [(0, .ref h), (1, .int n1), (2, .int n2)] := hl
  refine lv_aload_n hx hb dX12_isBent_0 rfl (lv_at hl 0 rfl) ?_
  refine lv_iload_n hx hb dX12_isBent_1 rfl (lv_at hl 1 rfl) ?_
  refine eRi (va_runV (As := [.int n1]) (rest := []) ⟨hx, hb, hml, hown, hts⟩ (c_X12_isStrake l D cI cB cZ cJ tx h q i n1 h3 H.size) (zV hts k_1807 v_X12_isStrake ⟨Nat.le_of_ble_eq_true rfl, Nat.le_of_ble_eq_true rfl⟩) (pV (px1 hK hP 0 rfl) hK hP 0 rfl rfl) rfl rfl hl.1 rfl (lv_room (Nat.le_of_ble_eq_true rfl)) dX12_isBent_2 ⟨Nat.le_of_ble_eq_true rfl, Nat.le_of_ble_eq_true rfl⟩) hP hS hA (fun r_1 H locs wr_1 hP hS => ?_)
  subst wr_1
  refine lv_if_eq (tgt := 15) hx hb dX12_isBent_5 (by decide) (fun _ => ?_) (fun c => absurd c (by decide))
  refine lv_iconst (v := 0) hx hb dX12_isBent_15 (by decide) ?_
  exact W.zret (v := 0) hx hb hr (by decide) (fun t ht hW => ⟨⟨(0 : Int32), (), rfl, (lf_X12_isBent_2 h q i n1 n2 h3), trivial⟩, hS.F ht⟩) hS.2.2 dX12_isBent_16 hlocks

theorem lf_X12_areBent_1 (h : Nat) (q : Nat → Nat) (i : Nat → Int32) (n1 : Int32) (h3 : i 3 = 0) : (0 : Int32) = 0 := by
  first | rfl | (simp only [bi]; rw [if_pos (by grind)]; done) | (simp only [bi]; rw [if_neg (by grind)]; done) | grind
set_option maxHeartbeats 4000000 in
set_option maxRecDepth 100000 in
theorem c_X12_areBent (l : Launch) (D : va_G) (cI cB cZ cJ : ClassId) (tx : List (ClassId × FieldType)) (h : Nat) (q : Nat → Nat) (i : Nat → Int32) (n1 : Int32) (h3 : i 3 = 0) : RdI l D cI cB cZ cJ tx yX12_areBent cX12_areBent 4 (some .boolean) 3 [.ref h, .int n1] [(h, .inr (12, mG q i))] (fun r => r = 0) := by
  refine rdi_of2 (by decide) (Nat.le_of_ble_eq_true rfl) ?_
  intro p e s m below meth c A ls H locs hC hK hP hA hS hl
  obtain ⟨hx, hb, hr, hml, hown, hts, hlocks, hin⟩ := hC
  have hown : s.vm.findClass RX12 = some m.cls := hown
  have hl : lv_has ls 4 [(0, .ref h), (1, .int n1)] := hl
  refine lv_aload_n hx hb dX12_areBent_0 rfl (lv_at hl 0 rfl) ?_
  refine va_get (D := D) (ci := 12) (v := .int (i 3)) (C := RX12) (T := TX12) (N := 81) hx hb hts inT_X12 hown hK.1 hP 0 rfl rfl 3 (by decide) (hts _ k_1356) (fun _ h9 => h9) rfl dX12_areBent_1 ?_
  refine lv_topv (y := 0) h3 ?_
  refine lv_if_le (tgt := 11) hx hb dX12_areBent_4 (by decide) (fun _ => ?_) (fun c => absurd c (by decide))
  refine lv_iconst (v := 0) hx hb dX12_areBent_11 (by decide) ?_
  refine lv_istore_n (lv' := [(2, .int 0), (0, .ref h), (1, .int n1)]) hx hb dX12_areBent_12 rfl hl (by decide) rfl (fun ls hl => ?_)
  refine lv_iconst (v := 0) hx hb dX12_areBent_13 (by decide) ?_
  refine lv_istore_n (lv' := [(3, .int 0), (2, .int 0), (0, .ref h), (1, .int n1)]) hx hb dX12_areBent_14 rfl hl (by decide) rfl (fun ls hl => ?_)
  refine lv_iload_n hx hb dX12_areBent_15 rfl (lv_at hl 0 rfl) ?_
  refine lv_aload_n hx hb dX12_areBent_16 rfl (lv_at hl 2 rfl) ?_
  refine va_get (D := D) (ci := 12) (v := .int (i 3)) (C := RX12) (T := TX12) (N := 81) hx hb hts inT_X12 hown hK.1 hP 0 rfl rfl 3 (by decide) (hts _ k_1356) (fun _ h9 => h9) rfl dX12_areBent_17 ?_
  refine lv_topv (y := 0) h3 ?_
  refine lv_icmp_ge (tgt := 48) hx hb dX12_areBent_20 (by decide) (fun _ => ?_) (fun c => absurd c (by decide))
  refine lv_iload_n hx hb dX12_areBent_48 rfl (lv_at hl 1 rfl) ?_
  exact W.zret (v := 0) hx hb hr (by decide) (fun t ht hW => ⟨⟨(0 : Int32), (), rfl, (lf_X12_areBent_1 h q i n1 h3), trivial⟩, hS.F ht⟩) hS.2.2 dX12_areBent_49 hlocks

theorem lf_X12_left_1 (h : Nat) (q : Nat → Nat) (i : Nat → Int32) (h2 : i 2 = 0) : (0 : Int32) = 0 := by
  first | rfl | (simp only [bi]; rw [if_pos (by grind)]; done) | (simp only [bi]; rw [if_neg (by grind)]; done) | grind
set_option maxHeartbeats 4000000 in
set_option maxRecDepth 100000 in
theorem c_X12_left (l : Launch) (D : va_G) (cI cB cZ cJ : ClassId) (tx : List (ClassId × FieldType)) (h : Nat) (q : Nat → Nat) (i : Nat → Int32) (h2 : i 2 = 0) : RdI l D cI cB cZ cJ tx yX12_left cX12_left 4 (some .int) 0 [.ref h] [(h, .inr (12, mG q i))] (fun r => r = 0) := by
  refine rdi_of2 (by decide) (Nat.le_of_ble_eq_true rfl) ?_
  intro p e s m below meth c A ls H locs hC hK hP hA hS hl
  obtain ⟨hx, hb, hr, hml, hown, hts, hlocks, hin⟩ := hC
  have hown : s.vm.findClass RX12 = some m.cls := hown
  have hl : lv_has ls 4 [(0, .ref h)] := hl
  refine lv_iconst (v := 0) hx hb dX12_left_0 (by decide) ?_
  refine lv_istore_n (lv' := [(1, .int 0), (0, .ref h)]) hx hb dX12_left_1 rfl hl (by decide) rfl (fun ls hl => ?_)
  refine lv_iconst (v := 0) hx hb dX12_left_2 (by decide) ?_
  refine lv_istore_n (lv' := [(2, .int 0), (1, .int 0), (0, .ref h)]) hx hb dX12_left_3 rfl hl (by decide) rfl (fun ls hl => ?_)
  refine lv_iload_n hx hb dX12_left_4 rfl (lv_at hl 0 rfl) ?_
  refine lv_aload_n hx hb dX12_left_5 rfl (lv_at hl 2 rfl) ?_
  refine va_get (D := D) (ci := 12) (v := .int (i 2)) (C := RX12) (T := TX12) (N := 81) hx hb hts inT_X12 hown hK.1 hP 0 rfl rfl 2 (by decide) (hts _ k_1355) (fun _ h9 => h9) rfl dX12_left_6 ?_
  refine lv_topv (y := 0) h2 ?_
  refine lv_icmp_ge (tgt := 76) hx hb dX12_left_9 (by decide) (fun _ => ?_) (fun c => absurd c (by decide))
  refine lv_iload_n hx hb dX12_left_76 rfl (lv_at hl 1 rfl) ?_
  exact W.iret (v := 0) hx hb hr (fun t ht hW => ⟨⟨(0 : Int32), (), rfl, (lf_X12_left_1 h q i h2), trivial⟩, hS.F ht⟩) hS.2.2 dX12_left_77 hlocks

theorem lf_X12_storiesTold_1 (h : Nat) (q : Nat → Nat) (i : Nat → Int32) : (0 : Int32) = 0 := by
  first | rfl | (simp only [bi]; rw [if_pos (by grind)]; done) | (simp only [bi]; rw [if_neg (by grind)]; done) | grind
set_option maxHeartbeats 4000000 in
set_option maxRecDepth 100000 in
theorem c_X12_storiesTold (l : Launch) (D : va_G) (cI cB cZ cJ : ClassId) (tx : List (ClassId × FieldType)) (h : Nat) (q : Nat → Nat) (i : Nat → Int32) : RdI l D cI cB cZ cJ tx yX12_storiesTold cX12_storiesTold 3 (some .int) 0 [.ref h] [(h, .inr (12, mG q i)), (q 76, .inl (cZ, 6, .inl (fun _ => 0)))] (fun r => r = 0) := by
  refine rdi_of2 (by decide) (Nat.le_of_ble_eq_true rfl) ?_
  intro p e s m below meth c A ls H locs hC hK hP hA hS hl
  obtain ⟨hx, hb, hr, hml, hown, hts, hlocks, hin⟩ := hC
  have hown : s.vm.findClass RX12 = some m.cls := hown
  have hl : lv_has ls 3 [(0, .ref h)] := hl
  refine lv_iconst (v := 0) hx hb dX12_storiesTold_0 (by decide) ?_
  refine lv_istore_n (lv' := [(1, .int 0), (0, .ref h)]) hx hb dX12_storiesTold_1 rfl hl (by decide) rfl (fun ls hl => ?_)
  refine lv_iconst (v := 0) hx hb dX12_storiesTold_2 (by decide) ?_
  refine lv_istore_n (lv' := [(2, .int 0), (1, .int 0), (0, .ref h)]) hx hb dX12_storiesTold_3 rfl hl (by decide) rfl (fun ls hl => ?_)
  refine lv_iload_n hx hb dX12_storiesTold_4 rfl (lv_at hl 0 rfl) ?_
  refine lv_bipush (v := 6) hx hb dX12_storiesTold_5 (by decide) ?_
  refine lv_icmp_ge (tgt := 33) hx hb dX12_storiesTold_7 (by decide) (fun c => absurd c (by decide)) (fun _ => ?_)
  refine lv_iload_n hx hb dX12_storiesTold_10 rfl (lv_at hl 1 rfl) ?_
  refine lv_aload_n hx hb dX12_storiesTold_11 rfl (lv_at hl 2 rfl) ?_
  refine va_get (D := D) (ci := 12) (v := .ref (q 76)) (C := RX12) (T := TX12) (N := 81) hx hb hts inT_X12 hown hK.1 hP 0 rfl rfl 76 (by decide) (hts _ k_1429) (fun _ h9 => h9) rfl dX12_storiesTold_12 ?_
  refine lv_iload_n hx hb dX12_storiesTold_15 rfl (lv_at hl 0 rfl) ?_
  refine l0_z hx hb hK hP 1 rfl (by unfold vp_in; decide) dX12_storiesTold_16 ?_
  refine lv_if_eq (tgt := 24) hx hb dX12_storiesTold_17 (by decide) (fun _ => ?_) (fun c => absurd c (by decide))
  refine lv_iconst (v := 0) hx hb dX12_storiesTold_24 (by decide) ?_
  refine lv_iadd hx hb dX12_storiesTold_25 ?_
  refine lv_topv (y := 0) (by decide) ?_
  refine lv_istore_n (lv' := [(1, .int 0), (2, .int 0), (0, .ref h)]) hx hb dX12_storiesTold_26 rfl hl (by decide) rfl (fun ls hl => ?_)
  refine lv_iinc (v := 1) (lv' := [(2, .int 1), (1, .int 0), (0, .ref h)]) hx hb dX12_storiesTold_27 hl (k := 1) rfl (by decide) (by decide) rfl (fun ls hl => ?_)
  refine lv_goto (tgt := 4) hx hb dX12_storiesTold_30 (by decide) ?_
  refine lv_iload_n hx hb dX12_storiesTold_4 rfl (lv_at hl 0 rfl) ?_
  refine lv_bipush (v := 6) hx hb dX12_storiesTold_5 (by decide) ?_
  refine lv_icmp_ge (tgt := 33) hx hb dX12_storiesTold_7 (by decide) (fun c => absurd c (by decide)) (fun _ => ?_)
  refine lv_iload_n hx hb dX12_storiesTold_10 rfl (lv_at hl 1 rfl) ?_
  refine lv_aload_n hx hb dX12_storiesTold_11 rfl (lv_at hl 2 rfl) ?_
  refine va_get (D := D) (ci := 12) (v := .ref (q 76)) (C := RX12) (T := TX12) (N := 81) hx hb hts inT_X12 hown hK.1 hP 0 rfl rfl 76 (by decide) (hts _ k_1429) (fun _ h9 => h9) rfl dX12_storiesTold_12 ?_
  refine lv_iload_n hx hb dX12_storiesTold_15 rfl (lv_at hl 0 rfl) ?_
  refine l0_z hx hb hK hP 1 rfl (by unfold vp_in; decide) dX12_storiesTold_16 ?_
  refine lv_if_eq (tgt := 24) hx hb dX12_storiesTold_17 (by decide) (fun _ => ?_) (fun c => absurd c (by decide))
  refine lv_iconst (v := 0) hx hb dX12_storiesTold_24 (by decide) ?_
  refine lv_iadd hx hb dX12_storiesTold_25 ?_
  refine lv_topv (y := 0) (by decide) ?_
  refine lv_istore_n (lv' := [(1, .int 0), (2, .int 1), (0, .ref h)]) hx hb dX12_storiesTold_26 rfl hl (by decide) rfl (fun ls hl => ?_)
  refine lv_iinc (v := 2) (lv' := [(2, .int 2), (1, .int 0), (0, .ref h)]) hx hb dX12_storiesTold_27 hl (k := 1) rfl (by decide) (by decide) rfl (fun ls hl => ?_)
  refine lv_goto (tgt := 4) hx hb dX12_storiesTold_30 (by decide) ?_
  refine lv_iload_n hx hb dX12_storiesTold_4 rfl (lv_at hl 0 rfl) ?_
  refine lv_bipush (v := 6) hx hb dX12_storiesTold_5 (by decide) ?_
  refine lv_icmp_ge (tgt := 33) hx hb dX12_storiesTold_7 (by decide) (fun c => absurd c (by decide)) (fun _ => ?_)
  refine lv_iload_n hx hb dX12_storiesTold_10 rfl (lv_at hl 1 rfl) ?_
  refine lv_aload_n hx hb dX12_storiesTold_11 rfl (lv_at hl 2 rfl) ?_
  refine va_get (D := D) (ci := 12) (v := .ref (q 76)) (C := RX12) (T := TX12) (N := 81) hx hb hts inT_X12 hown hK.1 hP 0 rfl rfl 76 (by decide) (hts _ k_1429) (fun _ h9 => h9) rfl dX12_storiesTold_12 ?_
  refine lv_iload_n hx hb dX12_storiesTold_15 rfl (lv_at hl 0 rfl) ?_
  refine l0_z hx hb hK hP 1 rfl (by unfold vp_in; decide) dX12_storiesTold_16 ?_
  refine lv_if_eq (tgt := 24) hx hb dX12_storiesTold_17 (by decide) (fun _ => ?_) (fun c => absurd c (by decide))
  refine lv_iconst (v := 0) hx hb dX12_storiesTold_24 (by decide) ?_
  refine lv_iadd hx hb dX12_storiesTold_25 ?_
  refine lv_topv (y := 0) (by decide) ?_
  refine lv_istore_n (lv' := [(1, .int 0), (2, .int 2), (0, .ref h)]) hx hb dX12_storiesTold_26 rfl hl (by decide) rfl (fun ls hl => ?_)
  refine lv_iinc (v := 3) (lv' := [(2, .int 3), (1, .int 0), (0, .ref h)]) hx hb dX12_storiesTold_27 hl (k := 1) rfl (by decide) (by decide) rfl (fun ls hl => ?_)
  refine lv_goto (tgt := 4) hx hb dX12_storiesTold_30 (by decide) ?_
  refine lv_iload_n hx hb dX12_storiesTold_4 rfl (lv_at hl 0 rfl) ?_
  refine lv_bipush (v := 6) hx hb dX12_storiesTold_5 (by decide) ?_
  refine lv_icmp_ge (tgt := 33) hx hb dX12_storiesTold_7 (by decide) (fun c => absurd c (by decide)) (fun _ => ?_)
  refine lv_iload_n hx hb dX12_storiesTold_10 rfl (lv_at hl 1 rfl) ?_
  refine lv_aload_n hx hb dX12_storiesTold_11 rfl (lv_at hl 2 rfl) ?_
  refine va_get (D := D) (ci := 12) (v := .ref (q 76)) (C := RX12) (T := TX12) (N := 81) hx hb hts inT_X12 hown hK.1 hP 0 rfl rfl 76 (by decide) (hts _ k_1429) (fun _ h9 => h9) rfl dX12_storiesTold_12 ?_
  refine lv_iload_n hx hb dX12_storiesTold_15 rfl (lv_at hl 0 rfl) ?_
  refine l0_z hx hb hK hP 1 rfl (by unfold vp_in; decide) dX12_storiesTold_16 ?_
  refine lv_if_eq (tgt := 24) hx hb dX12_storiesTold_17 (by decide) (fun _ => ?_) (fun c => absurd c (by decide))
  refine lv_iconst (v := 0) hx hb dX12_storiesTold_24 (by decide) ?_
  refine lv_iadd hx hb dX12_storiesTold_25 ?_
  refine lv_topv (y := 0) (by decide) ?_
  refine lv_istore_n (lv' := [(1, .int 0), (2, .int 3), (0, .ref h)]) hx hb dX12_storiesTold_26 rfl hl (by decide) rfl (fun ls hl => ?_)
  refine lv_iinc (v := 4) (lv' := [(2, .int 4), (1, .int 0), (0, .ref h)]) hx hb dX12_storiesTold_27 hl (k := 1) rfl (by decide) (by decide) rfl (fun ls hl => ?_)
  refine lv_goto (tgt := 4) hx hb dX12_storiesTold_30 (by decide) ?_
  refine lv_iload_n hx hb dX12_storiesTold_4 rfl (lv_at hl 0 rfl) ?_
  refine lv_bipush (v := 6) hx hb dX12_storiesTold_5 (by decide) ?_
  refine lv_icmp_ge (tgt := 33) hx hb dX12_storiesTold_7 (by decide) (fun c => absurd c (by decide)) (fun _ => ?_)
  refine lv_iload_n hx hb dX12_storiesTold_10 rfl (lv_at hl 1 rfl) ?_
  refine lv_aload_n hx hb dX12_storiesTold_11 rfl (lv_at hl 2 rfl) ?_
  refine va_get (D := D) (ci := 12) (v := .ref (q 76)) (C := RX12) (T := TX12) (N := 81) hx hb hts inT_X12 hown hK.1 hP 0 rfl rfl 76 (by decide) (hts _ k_1429) (fun _ h9 => h9) rfl dX12_storiesTold_12 ?_
  refine lv_iload_n hx hb dX12_storiesTold_15 rfl (lv_at hl 0 rfl) ?_
  refine l0_z hx hb hK hP 1 rfl (by unfold vp_in; decide) dX12_storiesTold_16 ?_
  refine lv_if_eq (tgt := 24) hx hb dX12_storiesTold_17 (by decide) (fun _ => ?_) (fun c => absurd c (by decide))
  refine lv_iconst (v := 0) hx hb dX12_storiesTold_24 (by decide) ?_
  refine lv_iadd hx hb dX12_storiesTold_25 ?_
  refine lv_topv (y := 0) (by decide) ?_
  refine lv_istore_n (lv' := [(1, .int 0), (2, .int 4), (0, .ref h)]) hx hb dX12_storiesTold_26 rfl hl (by decide) rfl (fun ls hl => ?_)
  refine lv_iinc (v := 5) (lv' := [(2, .int 5), (1, .int 0), (0, .ref h)]) hx hb dX12_storiesTold_27 hl (k := 1) rfl (by decide) (by decide) rfl (fun ls hl => ?_)
  refine lv_goto (tgt := 4) hx hb dX12_storiesTold_30 (by decide) ?_
  refine lv_iload_n hx hb dX12_storiesTold_4 rfl (lv_at hl 0 rfl) ?_
  refine lv_bipush (v := 6) hx hb dX12_storiesTold_5 (by decide) ?_
  refine lv_icmp_ge (tgt := 33) hx hb dX12_storiesTold_7 (by decide) (fun c => absurd c (by decide)) (fun _ => ?_)
  refine lv_iload_n hx hb dX12_storiesTold_10 rfl (lv_at hl 1 rfl) ?_
  refine lv_aload_n hx hb dX12_storiesTold_11 rfl (lv_at hl 2 rfl) ?_
  refine va_get (D := D) (ci := 12) (v := .ref (q 76)) (C := RX12) (T := TX12) (N := 81) hx hb hts inT_X12 hown hK.1 hP 0 rfl rfl 76 (by decide) (hts _ k_1429) (fun _ h9 => h9) rfl dX12_storiesTold_12 ?_
  refine lv_iload_n hx hb dX12_storiesTold_15 rfl (lv_at hl 0 rfl) ?_
  refine l0_z hx hb hK hP 1 rfl (by unfold vp_in; decide) dX12_storiesTold_16 ?_
  refine lv_if_eq (tgt := 24) hx hb dX12_storiesTold_17 (by decide) (fun _ => ?_) (fun c => absurd c (by decide))
  refine lv_iconst (v := 0) hx hb dX12_storiesTold_24 (by decide) ?_
  refine lv_iadd hx hb dX12_storiesTold_25 ?_
  refine lv_topv (y := 0) (by decide) ?_
  refine lv_istore_n (lv' := [(1, .int 0), (2, .int 5), (0, .ref h)]) hx hb dX12_storiesTold_26 rfl hl (by decide) rfl (fun ls hl => ?_)
  refine lv_iinc (v := 6) (lv' := [(2, .int 6), (1, .int 0), (0, .ref h)]) hx hb dX12_storiesTold_27 hl (k := 1) rfl (by decide) (by decide) rfl (fun ls hl => ?_)
  refine lv_goto (tgt := 4) hx hb dX12_storiesTold_30 (by decide) ?_
  refine lv_iload_n hx hb dX12_storiesTold_4 rfl (lv_at hl 0 rfl) ?_
  refine lv_bipush (v := 6) hx hb dX12_storiesTold_5 (by decide) ?_
  refine lv_icmp_ge (tgt := 33) hx hb dX12_storiesTold_7 (by decide) (fun _ => ?_) (fun c => absurd c (by decide))
  refine lv_iload_n hx hb dX12_storiesTold_33 rfl (lv_at hl 1 rfl) ?_
  exact W.iret (v := 0) hx hb hr (fun t ht hW => ⟨⟨(0 : Int32), (), rfl, (lf_X12_storiesTold_1 h q i), trivial⟩, hS.F ht⟩) hS.2.2 dX12_storiesTold_34 hlocks

theorem lf_X12_isOut_2 (n1 : Int32) : (bi ((0 : Int32) ≤ n1 ∧ n1 ≤ 40) : Int32) = bi (0 ≤ n1 ∧ n1 ≤ 40) := by
  first | rfl | (simp only [bi]; rw [if_pos (by grind)]; done) | (simp only [bi]; rw [if_neg (by grind)]; done) | grind
set_option maxHeartbeats 4000000 in
set_option maxRecDepth 100000 in
theorem c_X12_isOut (l : Launch) (D : va_G) (cI cB cZ cJ : ClassId) (tx : List (ClassId × FieldType)) (n1 : Int32) : RdI l D cI cB cZ cJ tx yX12_isOut cX12_isOut 1 (some .boolean) 1 [.int n1] [] (fun r => r = bi (0 ≤ n1 ∧ n1 ≤ 40)) := by
  refine rdi_of2 (by decide) (Nat.le_of_ble_eq_true rfl) ?_
  intro p e s m below meth c A ls H locs hC hK hP hA hS hl
  obtain ⟨hx, hb, hr, hml, hown, hts, hlocks, hin⟩ := hC
  have hown : s.vm.findClass RX12 = some m.cls := hown
  have hl : lv_has ls 1 [(0, .int n1)] := hl
  refine lv_iload_n hx hb dX12_isOut_0 rfl (lv_at hl 0 rfl) ?_
  refine lv_i2l (v := n1.toInt64) hx hb dX12_isOut_1 rfl ?_
  refine lv_lconst (v := 0) hx hb dX12_isOut_2 (by decide) ?_
  refine lv_ldc2 (v := 40) hx hb hown (hts _ k_1918) dX12_isOut_3 ?_
  refine eRi (va_runS (As := [.long n1.toInt64, .long 0, .long 40]) (rest := []) ⟨hx, hb, hml, hown, hts⟩ (c_X12_isIn l D cI cB cZ cJ tx n1.toInt64 0 40 H.size) (zS hts k_1602 v_X12_isIn ⟨Nat.le_of_ble_eq_true rfl, Nat.le_of_ble_eq_true rfl⟩) (px0 hK) rfl rfl hl.1 rfl (lv_room (Nat.le_of_ble_eq_true rfl)) dX12_isOut_6 ⟨Nat.le_of_ble_eq_true rfl, Nat.le_of_ble_eq_true rfl⟩) hP hS hA (fun r_1 H locs wr_1 hP hS => ?_)
  have wr_1 : r_1 = bi ((0 : Int32) ≤ n1 ∧ n1 ≤ 40) := isIn32 (lo := 0) (hi := 40) (by decide) (by decide) wr_1
  subst wr_1
  exact W.zret (v := bi ((0 : Int32) ≤ n1 ∧ n1 ≤ 40)) hx hb hr nb_bi (fun t ht hW => ⟨⟨(bi ((0 : Int32) ≤ n1 ∧ n1 ≤ 40) : Int32), (), rfl, (lf_X12_isOut_2 n1), trivial⟩, hS.F ht⟩) hS.2.2 dX12_isOut_9 hlocks

theorem lf_X12_isHeight_2 (n1 : Int32) : (bi ((1 : Int32) ≤ n1 ∧ n1 ≤ 200) : Int32) = bi (1 ≤ n1 ∧ n1 ≤ 200) := by
  first | rfl | (simp only [bi]; rw [if_pos (by grind)]; done) | (simp only [bi]; rw [if_neg (by grind)]; done) | grind
set_option maxHeartbeats 4000000 in
set_option maxRecDepth 100000 in
theorem c_X12_isHeight (l : Launch) (D : va_G) (cI cB cZ cJ : ClassId) (tx : List (ClassId × FieldType)) (n1 : Int32) : RdI l D cI cB cZ cJ tx yX12_isHeight cX12_isHeight 1 (some .boolean) 1 [.int n1] [] (fun r => r = bi (1 ≤ n1 ∧ n1 ≤ 200)) := by
  refine rdi_of2 (by decide) (Nat.le_of_ble_eq_true rfl) ?_
  intro p e s m below meth c A ls H locs hC hK hP hA hS hl
  obtain ⟨hx, hb, hr, hml, hown, hts, hlocks, hin⟩ := hC
  have hown : s.vm.findClass RX12 = some m.cls := hown
  have hl : lv_has ls 1 [(0, .int n1)] := hl
  refine lv_iload_n hx hb dX12_isHeight_0 rfl (lv_at hl 0 rfl) ?_
  refine lv_i2l (v := n1.toInt64) hx hb dX12_isHeight_1 rfl ?_
  refine lv_lconst (v := 1) hx hb dX12_isHeight_2 (by decide) ?_
  refine lv_ldc2 (v := 200) hx hb hown (hts _ k_1626) dX12_isHeight_3 ?_
  refine eRi (va_runS (As := [.long n1.toInt64, .long 1, .long 200]) (rest := []) ⟨hx, hb, hml, hown, hts⟩ (c_X12_isIn l D cI cB cZ cJ tx n1.toInt64 1 200 H.size) (zS hts k_1602 v_X12_isIn ⟨Nat.le_of_ble_eq_true rfl, Nat.le_of_ble_eq_true rfl⟩) (px0 hK) rfl rfl hl.1 rfl (lv_room (Nat.le_of_ble_eq_true rfl)) dX12_isHeight_6 ⟨Nat.le_of_ble_eq_true rfl, Nat.le_of_ble_eq_true rfl⟩) hP hS hA (fun r_1 H locs wr_1 hP hS => ?_)
  have wr_1 : r_1 = bi ((1 : Int32) ≤ n1 ∧ n1 ≤ 200) := isIn32 (lo := 1) (hi := 200) (by decide) (by decide) wr_1
  subst wr_1
  exact W.zret (v := bi ((1 : Int32) ≤ n1 ∧ n1 ≤ 200)) hx hb hr nb_bi (fun t ht hW => ⟨⟨(bi ((1 : Int32) ≤ n1 ∧ n1 ≤ 200) : Int32), (), rfl, (lf_X12_isHeight_2 n1), trivial⟩, hS.F ht⟩) hS.2.2 dX12_isHeight_9 hlocks

theorem lf_X12_pitch_4 (h : Nat) (q : Nat → Nat) (i : Nat → Int32) (n1 : Int32) (c_2 : (1 : Int32) ≤ n1 ∧ n1 ≤ 1000) (i_3 : Nat → Int32) : (1 : Int32) = bi (1 ≤ n1 ∧ n1 ≤ 1000) := by
  first | rfl | (simp only [bi]; rw [if_pos (by grind)]; done) | (simp only [bi]; rw [if_neg (by grind)]; done) | grind
theorem lf_X12_pitch_5 (h : Nat) (q : Nat → Nat) (i : Nat → Int32) (n1 : Int32) (c_2 : ¬ ((1 : Int32) ≤ n1 ∧ n1 ≤ 1000)) : (0 : Int32) = bi (1 ≤ n1 ∧ n1 ≤ 1000) := by
  first | rfl | (simp only [bi]; rw [if_pos (by grind)]; done) | (simp only [bi]; rw [if_neg (by grind)]; done) | grind
set_option maxHeartbeats 4000000 in
set_option maxRecDepth 100000 in
theorem c_X12_pitch (l : Launch) (D : va_G) (cI cB cZ cJ : ClassId) (tx : List (ClassId × FieldType)) (h : Nat) (q : Nat → Nat) (i : Nat → Int32) (n1 : Int32) : WrI l D cI cB cZ cJ tx yX12_pitch cX12_pitch 2 (some .boolean) 1 0 0 [.ref h, .int n1] [(h, .inr (12, mG q i))] (fun (r : Int32) (_ : Unit) => r = bi (1 ≤ n1 ∧ n1 ≤ 1000)) (fun _ => []) := by
  refine wri_of2 (by decide) (Nat.le_of_ble_eq_true rfl) ?_
  intro p e s m below meth c A ls H locs hC hK hP hD hA hS hl
  obtain ⟨hx, hb, hr, hml, hown, hts, hlocks, hin⟩ := hC
  have hown : s.vm.findClass RX12 = some m.cls := hown
  have hl : lv_has ls 2 [(0, .ref h), (1, .int n1)] := hl
  refine lv_iload_n hx hb dX12_pitch_0 rfl (lv_at hl 1 rfl) ?_
  refine lv_i2l (v := n1.toInt64) hx hb dX12_pitch_1 rfl ?_
  refine lv_lconst (v := 1) hx hb dX12_pitch_2 (by decide) ?_
  refine lv_ldc2 (v := 1000) hx hb hown (hts _ k_1601) dX12_pitch_3 ?_
  refine eRi (va_runS (As := [.long n1.toInt64, .long 1, .long 1000]) (rest := []) ⟨hx, hb, hml, hown, hts⟩ (c_X12_isIn l D cI cB cZ cJ tx n1.toInt64 1 1000 H.size) (zS hts k_1602 v_X12_isIn ⟨Nat.le_of_ble_eq_true rfl, Nat.le_of_ble_eq_true rfl⟩) (px0 hK) rfl rfl hl.1 rfl (lv_room (Nat.le_of_ble_eq_true rfl)) dX12_pitch_6 ⟨Nat.le_of_ble_eq_true rfl, Nat.le_of_ble_eq_true rfl⟩) hP hS hA (fun r_1 H locs wr_1 hP hS => ?_)
  have wr_1 : r_1 = bi ((1 : Int32) ≤ n1 ∧ n1 ≤ 1000) := isIn32 (lo := 1) (hi := 1000) (by decide) (by decide) wr_1
  subst wr_1
  refine lv_bi_ne (tgt := 14) hx hb dX12_pitch_9 (by decide) (fun c_2 => ?_) (fun c_2 => ?_)
  · refine lv_aload_n hx hb dX12_pitch_14 rfl (lv_at hl 0 rfl) ?_
    refine lv_iload_n hx hb dX12_pitch_15 rfl (lv_at hl 1 rfl) ?_
    refine va_put (D := D) (ci := 12) (v := .int n1) (ty := .int) (C := RX12) (T := TX12) (N := 81) hx hb hts inT_X12 tyX12 tyX12_ok nmX12 hown hK.1 hP hD hS 0 rfl rfl 4 (by decide) (hts _ k_1357) (fun _ h9 => h9) rfl (by decide +kernel) rfl rfl (Nat.le_of_ble_eq_true rfl) dX12_pitch_16 (fun H locs hP hD hS => ?_)
    obtain ⟨i_3, ei_3⟩ : ∃ z : Nat → Int32, z = upd i 4 n1 := ⟨_, rfl⟩
    have hi_3_4 : i_3 4 = n1 := by rw [ei_3]; rfl
    have hP : va_P D vwCl [(h, .inr (12, mG q i_3))] H := by rw [ei_3, ← mG_4]; exact hP
    have hD : va_D A [(h, .inr (12, mG q i_3))] := by rw [ei_3, ← mG_4]; exact hD
    refine lv_iconst (v := 1) hx hb dX12_pitch_19 (by decide) ?_
    exact W.zret (v := 1) hx hb hr (by decide) (fun t ht hW => ⟨⟨(1 : Int32), (), rfl, (lf_X12_pitch_4 h q i n1 c_2 i_3), bx0⟩, hS.F ht⟩) hS.2.2 dX12_pitch_20 hlocks
  · refine lv_iconst (v := 0) hx hb dX12_pitch_12 (by decide) ?_
    exact W.zret (v := 0) hx hb hr (by decide) (fun t ht hW => ⟨⟨(0 : Int32), (), rfl, (lf_X12_pitch_5 h q i n1 c_2), bx0⟩, hS.F ht⟩) hS.2.2 dX12_pitch_13 hlocks

theorem lf_X12_seed_4 (h : Nat) (q : Nat → Nat) (i : Nat → Int32) (n1 : Int32) (c_2 : (0 : Int32) ≤ n1 ∧ n1 ≤ 65535) (i_3 : Nat → Int32) : (1 : Int32) = bi (0 ≤ n1 ∧ n1 ≤ 65535) := by
  first | rfl | (simp only [bi]; rw [if_pos (by grind)]; done) | (simp only [bi]; rw [if_neg (by grind)]; done) | grind
theorem lf_X12_seed_5 (h : Nat) (q : Nat → Nat) (i : Nat → Int32) (n1 : Int32) (c_2 : ¬ ((0 : Int32) ≤ n1 ∧ n1 ≤ 65535)) : (0 : Int32) = bi (0 ≤ n1 ∧ n1 ≤ 65535) := by
  first | rfl | (simp only [bi]; rw [if_pos (by grind)]; done) | (simp only [bi]; rw [if_neg (by grind)]; done) | grind
set_option maxHeartbeats 4000000 in
set_option maxRecDepth 100000 in
theorem c_X12_seed (l : Launch) (D : va_G) (cI cB cZ cJ : ClassId) (tx : List (ClassId × FieldType)) (h : Nat) (q : Nat → Nat) (i : Nat → Int32) (n1 : Int32) : WrI l D cI cB cZ cJ tx yX12_seed cX12_seed 2 (some .boolean) 1 0 0 [.ref h, .int n1] [(h, .inr (12, mG q i))] (fun (r : Int32) (_ : Unit) => r = bi (0 ≤ n1 ∧ n1 ≤ 65535)) (fun _ => []) := by
  refine wri_of2 (by decide) (Nat.le_of_ble_eq_true rfl) ?_
  intro p e s m below meth c A ls H locs hC hK hP hD hA hS hl
  obtain ⟨hx, hb, hr, hml, hown, hts, hlocks, hin⟩ := hC
  have hown : s.vm.findClass RX12 = some m.cls := hown
  have hl : lv_has ls 2 [(0, .ref h), (1, .int n1)] := hl
  refine lv_iload_n hx hb dX12_seed_0 rfl (lv_at hl 1 rfl) ?_
  refine lv_i2l (v := n1.toInt64) hx hb dX12_seed_1 rfl ?_
  refine lv_lconst (v := 0) hx hb dX12_seed_2 (by decide) ?_
  refine lv_ldc2 (v := 65535) hx hb hown (hts _ k_1609) dX12_seed_3 ?_
  refine eRi (va_runS (As := [.long n1.toInt64, .long 0, .long 65535]) (rest := []) ⟨hx, hb, hml, hown, hts⟩ (c_X12_isIn l D cI cB cZ cJ tx n1.toInt64 0 65535 H.size) (zS hts k_1602 v_X12_isIn ⟨Nat.le_of_ble_eq_true rfl, Nat.le_of_ble_eq_true rfl⟩) (px0 hK) rfl rfl hl.1 rfl (lv_room (Nat.le_of_ble_eq_true rfl)) dX12_seed_6 ⟨Nat.le_of_ble_eq_true rfl, Nat.le_of_ble_eq_true rfl⟩) hP hS hA (fun r_1 H locs wr_1 hP hS => ?_)
  have wr_1 : r_1 = bi ((0 : Int32) ≤ n1 ∧ n1 ≤ 65535) := isIn32 (lo := 0) (hi := 65535) (by decide) (by decide) wr_1
  subst wr_1
  refine lv_bi_ne (tgt := 14) hx hb dX12_seed_9 (by decide) (fun c_2 => ?_) (fun c_2 => ?_)
  · refine lv_aload_n hx hb dX12_seed_14 rfl (lv_at hl 0 rfl) ?_
    refine lv_iload_n hx hb dX12_seed_15 rfl (lv_at hl 1 rfl) ?_
    refine va_put (D := D) (ci := 12) (v := .int n1) (ty := .int) (C := RX12) (T := TX12) (N := 81) hx hb hts inT_X12 tyX12 tyX12_ok nmX12 hown hK.1 hP hD hS 0 rfl rfl 5 (by decide) (hts _ k_1358) (fun _ h9 => h9) rfl (by decide +kernel) rfl rfl (Nat.le_of_ble_eq_true rfl) dX12_seed_16 (fun H locs hP hD hS => ?_)
    obtain ⟨i_3, ei_3⟩ : ∃ z : Nat → Int32, z = upd i 5 n1 := ⟨_, rfl⟩
    have hi_3_5 : i_3 5 = n1 := by rw [ei_3]; rfl
    have hP : va_P D vwCl [(h, .inr (12, mG q i_3))] H := by rw [ei_3, ← mG_5]; exact hP
    have hD : va_D A [(h, .inr (12, mG q i_3))] := by rw [ei_3, ← mG_5]; exact hD
    refine lv_iconst (v := 1) hx hb dX12_seed_19 (by decide) ?_
    exact W.zret (v := 1) hx hb hr (by decide) (fun t ht hW => ⟨⟨(1 : Int32), (), rfl, (lf_X12_seed_4 h q i n1 c_2 i_3), bx0⟩, hS.F ht⟩) hS.2.2 dX12_seed_20 hlocks
  · refine lv_iconst (v := 0) hx hb dX12_seed_12 (by decide) ?_
    exact W.zret (v := 0) hx hb hr (by decide) (fun t ht hW => ⟨⟨(0 : Int32), (), rfl, (lf_X12_seed_5 h q i n1 c_2), bx0⟩, hS.F ht⟩) hS.2.2 dX12_seed_13 hlocks

set_option maxHeartbeats 4000000 in
set_option maxRecDepth 100000 in
theorem c_X12_push_0 (l : Launch) (D : va_G) (cI cB cZ cJ : ClassId) (tx : List (ClassId × FieldType)) (h : Nat) (q : Nat → Nat) (i : Nat → Int32) (f : Nat → Int32) (n1 : Int32) (h1 : i 1 = 0) : WrV l D cI cB cZ cJ tx yX12_push cX12_push 3 none 0 0 0 [.ref h, .int n1] [(h, .inr (12, mG q i)), (q 0, .inl (cB, 220, .inl f))] (fun (u : (Nat → Int32) × (Nat → Int32)) => u.1 1 = 4) (fun u => [(h, .inr (12, mG q u.1)), (q 0, .inl (cB, 220, .inl u.2))]) := by
  refine wrv_of2 (by decide) (Nat.le_of_ble_eq_true rfl) ?_
  intro p e s m below meth c A ls H locs hC hK hP hD hA hS hl
  obtain ⟨hx, hb, hr, hml, hown, hts, hlocks, hin⟩ := hC
  have hown : s.vm.findClass RX12 = some m.cls := hown
  have hl : lv_has ls 3 [(0, .ref h), (1, .int n1)] := hl
  refine lv_bipush (v := 24) hx hb dX12_push_0 (by decide) ?_
  refine lv_istore_n (lv' := [(2, .int 24), (0, .ref h), (1, .int n1)]) hx hb dX12_push_2 rfl hl (by decide) rfl (fun ls hl => ?_)
  refine lv_iload_n hx hb dX12_push_3 rfl (lv_at hl 0 rfl) ?_
  refine lv_if_lt (tgt := 36) hx hb dX12_push_4 (by decide) (fun c => absurd c (by decide)) (fun _ => ?_)
  refine lv_aload_n hx hb dX12_push_7 rfl (lv_at hl 1 rfl) ?_
  refine va_get (D := D) (ci := 12) (v := .ref (q 0)) (C := RX12) (T := TX12) (N := 81) hx hb hts inT_X12 hown hK.1 hP 0 rfl rfl 0 (by decide) (hts _ k_1353) (fun _ h9 => h9) rfl dX12_push_8 ?_
  refine lv_aload_n hx hb dX12_push_11 rfl (lv_at hl 1 rfl) ?_
  refine va_get (D := D) (ci := 12) (v := .int (i 1)) (C := RX12) (T := TX12) (N := 81) hx hb hts inT_X12 hown hK.1 hP 0 rfl rfl 1 (by decide) (hts _ k_1354) (fun _ h9 => h9) rfl dX12_push_12 ?_
  refine lv_topv (y := 0) h1 ?_
  refine lv_iload_n hx hb dX12_push_15 rfl (lv_at hl 2 rfl) ?_
  refine lv_iload_n hx hb dX12_push_16 rfl (lv_at hl 0 rfl) ?_
  refine lv_ishr hx hb dX12_push_17 ?_
  refine lv_topi (fun x_1 _ => ?_)
  refine lv_i2b hx hb dX12_push_18 rfl ?_
  refine lv_topi (fun x_2 _ => ?_)
  refine st_b hx hb hK hP hD hS 1 rfl (by unfold vp_in; decide) dX12_push_19 (fun f_3 H locs hP hD hS => ?_)
  have hP : va_P D vwCl [(h, .inr (12, mG q i)), (q 0, .inl (cB, 220, .inl f_3))] H := hP
  have hD : va_D A [(h, .inr (12, mG q i)), (q 0, .inl (cB, 220, .inl f_3))] := hD
  refine lv_aload_n hx hb dX12_push_20 rfl (lv_at hl 1 rfl) ?_
  refine lv_dup hx hb dX12_push_21 rfl ?_
  refine va_get (D := D) (ci := 12) (v := .int (i 1)) (C := RX12) (T := TX12) (N := 81) hx hb hts inT_X12 hown hK.1 hP 0 rfl rfl 1 (by decide) (hts _ k_1354) (fun _ h9 => h9) rfl dX12_push_22 ?_
  refine lv_topv (y := 0) h1 ?_
  refine lv_iconst (v := 1) hx hb dX12_push_25 (by decide) ?_
  refine lv_iadd hx hb dX12_push_26 ?_
  refine lv_topv (y := 1) (by decide) ?_
  refine va_put (D := D) (ci := 12) (v := .int 1) (ty := .int) (C := RX12) (T := TX12) (N := 81) hx hb hts inT_X12 tyX12 tyX12_ok nmX12 hown hK.1 hP hD hS 0 rfl rfl 1 (by decide) (hts _ k_1354) (fun _ h9 => h9) rfl (by decide +kernel) rfl rfl (Nat.le_of_ble_eq_true rfl) dX12_push_27 (fun H locs hP hD hS => ?_)
  obtain ⟨i_4, ei_4⟩ : ∃ z : Nat → Int32, z = upd i 1 1 := ⟨_, rfl⟩
  have hi_4_1 : i_4 1 = 1 := by rw [ei_4]; rfl
  have hP : va_P D vwCl [(h, .inr (12, mG q i_4)), (q 0, .inl (cB, 220, .inl f_3))] H := by rw [ei_4, ← mG_1]; exact hP
  have hD : va_D A [(h, .inr (12, mG q i_4)), (q 0, .inl (cB, 220, .inl f_3))] := by rw [ei_4, ← mG_1]; exact hD
  refine lv_iinc (v := 16) (lv' := [(2, .int 16), (0, .ref h), (1, .int n1)]) hx hb dX12_push_30 hl (k := 0) rfl (by decide) (by decide) rfl (fun ls hl => ?_)
  refine lv_goto (tgt := 3) hx hb dX12_push_33 (by decide) ?_
  refine lv_iload_n hx hb dX12_push_3 rfl (lv_at hl 0 rfl) ?_
  refine lv_if_lt (tgt := 36) hx hb dX12_push_4 (by decide) (fun c => absurd c (by decide)) (fun _ => ?_)
  refine lv_aload_n hx hb dX12_push_7 rfl (lv_at hl 1 rfl) ?_
  refine va_get (D := D) (ci := 12) (v := .ref (q 0)) (C := RX12) (T := TX12) (N := 81) hx hb hts inT_X12 hown hK.1 hP 0 rfl rfl 0 (by decide) (hts _ k_1353) (fun _ h9 => h9) rfl dX12_push_8 ?_
  refine lv_aload_n hx hb dX12_push_11 rfl (lv_at hl 1 rfl) ?_
  refine va_get (D := D) (ci := 12) (v := .int (i_4 1)) (C := RX12) (T := TX12) (N := 81) hx hb hts inT_X12 hown hK.1 hP 0 rfl rfl 1 (by decide) (hts _ k_1354) (fun _ h9 => h9) rfl dX12_push_12 ?_
  refine lv_topv (y := 1) hi_4_1 ?_
  refine lv_iload_n hx hb dX12_push_15 rfl (lv_at hl 2 rfl) ?_
  refine lv_iload_n hx hb dX12_push_16 rfl (lv_at hl 0 rfl) ?_
  refine lv_ishr hx hb dX12_push_17 ?_
  refine lv_topi (fun x_5 _ => ?_)
  refine lv_i2b hx hb dX12_push_18 rfl ?_
  refine lv_topi (fun x_6 _ => ?_)
  refine st_b hx hb hK hP hD hS 1 rfl (by unfold vp_in; decide) dX12_push_19 (fun f_7 H locs hP hD hS => ?_)
  have hP : va_P D vwCl [(h, .inr (12, mG q i_4)), (q 0, .inl (cB, 220, .inl f_7))] H := hP
  have hD : va_D A [(h, .inr (12, mG q i_4)), (q 0, .inl (cB, 220, .inl f_7))] := hD
  refine lv_aload_n hx hb dX12_push_20 rfl (lv_at hl 1 rfl) ?_
  refine lv_dup hx hb dX12_push_21 rfl ?_
  refine va_get (D := D) (ci := 12) (v := .int (i_4 1)) (C := RX12) (T := TX12) (N := 81) hx hb hts inT_X12 hown hK.1 hP 0 rfl rfl 1 (by decide) (hts _ k_1354) (fun _ h9 => h9) rfl dX12_push_22 ?_
  refine lv_topv (y := 1) hi_4_1 ?_
  refine lv_iconst (v := 1) hx hb dX12_push_25 (by decide) ?_
  refine lv_iadd hx hb dX12_push_26 ?_
  refine lv_topv (y := 2) (by decide) ?_
  refine va_put (D := D) (ci := 12) (v := .int 2) (ty := .int) (C := RX12) (T := TX12) (N := 81) hx hb hts inT_X12 tyX12 tyX12_ok nmX12 hown hK.1 hP hD hS 0 rfl rfl 1 (by decide) (hts _ k_1354) (fun _ h9 => h9) rfl (by decide +kernel) rfl rfl (Nat.le_of_ble_eq_true rfl) dX12_push_27 (fun H locs hP hD hS => ?_)
  obtain ⟨i_8, ei_8⟩ : ∃ z : Nat → Int32, z = upd i_4 1 2 := ⟨_, rfl⟩
  have hi_8_1 : i_8 1 = 2 := by rw [ei_8]; rfl
  have hP : va_P D vwCl [(h, .inr (12, mG q i_8)), (q 0, .inl (cB, 220, .inl f_7))] H := by rw [ei_8, ← mG_1]; exact hP
  have hD : va_D A [(h, .inr (12, mG q i_8)), (q 0, .inl (cB, 220, .inl f_7))] := by rw [ei_8, ← mG_1]; exact hD
  refine lv_iinc (v := 8) (lv' := [(2, .int 8), (0, .ref h), (1, .int n1)]) hx hb dX12_push_30 hl (k := 0) rfl (by decide) (by decide) rfl (fun ls hl => ?_)
  refine lv_goto (tgt := 3) hx hb dX12_push_33 (by decide) ?_
  refine lv_iload_n hx hb dX12_push_3 rfl (lv_at hl 0 rfl) ?_
  refine lv_if_lt (tgt := 36) hx hb dX12_push_4 (by decide) (fun c => absurd c (by decide)) (fun _ => ?_)
  refine lv_aload_n hx hb dX12_push_7 rfl (lv_at hl 1 rfl) ?_
  refine va_get (D := D) (ci := 12) (v := .ref (q 0)) (C := RX12) (T := TX12) (N := 81) hx hb hts inT_X12 hown hK.1 hP 0 rfl rfl 0 (by decide) (hts _ k_1353) (fun _ h9 => h9) rfl dX12_push_8 ?_
  refine lv_aload_n hx hb dX12_push_11 rfl (lv_at hl 1 rfl) ?_
  refine va_get (D := D) (ci := 12) (v := .int (i_8 1)) (C := RX12) (T := TX12) (N := 81) hx hb hts inT_X12 hown hK.1 hP 0 rfl rfl 1 (by decide) (hts _ k_1354) (fun _ h9 => h9) rfl dX12_push_12 ?_
  refine lv_topv (y := 2) hi_8_1 ?_
  refine lv_iload_n hx hb dX12_push_15 rfl (lv_at hl 2 rfl) ?_
  refine lv_iload_n hx hb dX12_push_16 rfl (lv_at hl 0 rfl) ?_
  refine lv_ishr hx hb dX12_push_17 ?_
  refine lv_topi (fun x_9 _ => ?_)
  refine lv_i2b hx hb dX12_push_18 rfl ?_
  refine lv_topi (fun x_10 _ => ?_)
  refine st_b hx hb hK hP hD hS 1 rfl (by unfold vp_in; decide) dX12_push_19 (fun f_11 H locs hP hD hS => ?_)
  have hP : va_P D vwCl [(h, .inr (12, mG q i_8)), (q 0, .inl (cB, 220, .inl f_11))] H := hP
  have hD : va_D A [(h, .inr (12, mG q i_8)), (q 0, .inl (cB, 220, .inl f_11))] := hD
  refine lv_aload_n hx hb dX12_push_20 rfl (lv_at hl 1 rfl) ?_
  refine lv_dup hx hb dX12_push_21 rfl ?_
  refine va_get (D := D) (ci := 12) (v := .int (i_8 1)) (C := RX12) (T := TX12) (N := 81) hx hb hts inT_X12 hown hK.1 hP 0 rfl rfl 1 (by decide) (hts _ k_1354) (fun _ h9 => h9) rfl dX12_push_22 ?_
  refine lv_topv (y := 2) hi_8_1 ?_
  refine lv_iconst (v := 1) hx hb dX12_push_25 (by decide) ?_
  refine lv_iadd hx hb dX12_push_26 ?_
  refine lv_topv (y := 3) (by decide) ?_
  refine va_put (D := D) (ci := 12) (v := .int 3) (ty := .int) (C := RX12) (T := TX12) (N := 81) hx hb hts inT_X12 tyX12 tyX12_ok nmX12 hown hK.1 hP hD hS 0 rfl rfl 1 (by decide) (hts _ k_1354) (fun _ h9 => h9) rfl (by decide +kernel) rfl rfl (Nat.le_of_ble_eq_true rfl) dX12_push_27 (fun H locs hP hD hS => ?_)
  obtain ⟨i_12, ei_12⟩ : ∃ z : Nat → Int32, z = upd i_8 1 3 := ⟨_, rfl⟩
  have hi_12_1 : i_12 1 = 3 := by rw [ei_12]; rfl
  have hP : va_P D vwCl [(h, .inr (12, mG q i_12)), (q 0, .inl (cB, 220, .inl f_11))] H := by rw [ei_12, ← mG_1]; exact hP
  have hD : va_D A [(h, .inr (12, mG q i_12)), (q 0, .inl (cB, 220, .inl f_11))] := by rw [ei_12, ← mG_1]; exact hD
  refine lv_iinc (v := 0) (lv' := [(2, .int 0), (0, .ref h), (1, .int n1)]) hx hb dX12_push_30 hl (k := 0) rfl (by decide) (by decide) rfl (fun ls hl => ?_)
  refine lv_goto (tgt := 3) hx hb dX12_push_33 (by decide) ?_
  refine lv_iload_n hx hb dX12_push_3 rfl (lv_at hl 0 rfl) ?_
  refine lv_if_lt (tgt := 36) hx hb dX12_push_4 (by decide) (fun c => absurd c (by decide)) (fun _ => ?_)
  refine lv_aload_n hx hb dX12_push_7 rfl (lv_at hl 1 rfl) ?_
  refine va_get (D := D) (ci := 12) (v := .ref (q 0)) (C := RX12) (T := TX12) (N := 81) hx hb hts inT_X12 hown hK.1 hP 0 rfl rfl 0 (by decide) (hts _ k_1353) (fun _ h9 => h9) rfl dX12_push_8 ?_
  refine lv_aload_n hx hb dX12_push_11 rfl (lv_at hl 1 rfl) ?_
  refine va_get (D := D) (ci := 12) (v := .int (i_12 1)) (C := RX12) (T := TX12) (N := 81) hx hb hts inT_X12 hown hK.1 hP 0 rfl rfl 1 (by decide) (hts _ k_1354) (fun _ h9 => h9) rfl dX12_push_12 ?_
  refine lv_topv (y := 3) hi_12_1 ?_
  refine lv_iload_n hx hb dX12_push_15 rfl (lv_at hl 2 rfl) ?_
  refine lv_iload_n hx hb dX12_push_16 rfl (lv_at hl 0 rfl) ?_
  refine lv_ishr hx hb dX12_push_17 ?_
  refine lv_topi (fun x_13 _ => ?_)
  refine lv_i2b hx hb dX12_push_18 rfl ?_
  refine lv_topi (fun x_14 _ => ?_)
  refine st_b hx hb hK hP hD hS 1 rfl (by unfold vp_in; decide) dX12_push_19 (fun f_15 H locs hP hD hS => ?_)
  have hP : va_P D vwCl [(h, .inr (12, mG q i_12)), (q 0, .inl (cB, 220, .inl f_15))] H := hP
  have hD : va_D A [(h, .inr (12, mG q i_12)), (q 0, .inl (cB, 220, .inl f_15))] := hD
  refine lv_aload_n hx hb dX12_push_20 rfl (lv_at hl 1 rfl) ?_
  refine lv_dup hx hb dX12_push_21 rfl ?_
  refine va_get (D := D) (ci := 12) (v := .int (i_12 1)) (C := RX12) (T := TX12) (N := 81) hx hb hts inT_X12 hown hK.1 hP 0 rfl rfl 1 (by decide) (hts _ k_1354) (fun _ h9 => h9) rfl dX12_push_22 ?_
  refine lv_topv (y := 3) hi_12_1 ?_
  refine lv_iconst (v := 1) hx hb dX12_push_25 (by decide) ?_
  refine lv_iadd hx hb dX12_push_26 ?_
  refine lv_topv (y := 4) (by decide) ?_
  refine va_put (D := D) (ci := 12) (v := .int 4) (ty := .int) (C := RX12) (T := TX12) (N := 81) hx hb hts inT_X12 tyX12 tyX12_ok nmX12 hown hK.1 hP hD hS 0 rfl rfl 1 (by decide) (hts _ k_1354) (fun _ h9 => h9) rfl (by decide +kernel) rfl rfl (Nat.le_of_ble_eq_true rfl) dX12_push_27 (fun H locs hP hD hS => ?_)
  obtain ⟨i_16, ei_16⟩ : ∃ z : Nat → Int32, z = upd i_12 1 4 := ⟨_, rfl⟩
  have hi_16_1 : i_16 1 = 4 := by rw [ei_16]; rfl
  have hP : va_P D vwCl [(h, .inr (12, mG q i_16)), (q 0, .inl (cB, 220, .inl f_15))] H := by rw [ei_16, ← mG_1]; exact hP
  have hD : va_D A [(h, .inr (12, mG q i_16)), (q 0, .inl (cB, 220, .inl f_15))] := by rw [ei_16, ← mG_1]; exact hD
  refine lv_iinc (v := (-8)) (lv' := [(2, .int (-8)), (0, .ref h), (1, .int n1)]) hx hb dX12_push_30 hl (k := 0) rfl (by decide) (by decide) rfl (fun ls hl => ?_)
  refine lv_goto (tgt := 3) hx hb dX12_push_33 (by decide) ?_
  refine lv_iload_n hx hb dX12_push_3 rfl (lv_at hl 0 rfl) ?_
  refine lv_if_lt (tgt := 36) hx hb dX12_push_4 (by decide) (fun _ => ?_) (fun c => absurd c (by decide))
  exact W.vret hx hb hr (fun t ht hW => ⟨⟨(i_16, f_15), rfl, hi_16_1, ⟨by rw [ht]; exact hP, hD⟩⟩, hS.F ht⟩) hS.2.2 dX12_push_36 hlocks

set_option maxHeartbeats 4000000 in
set_option maxRecDepth 100000 in
theorem c_X12_push_4 (l : Launch) (D : va_G) (cI cB cZ cJ : ClassId) (tx : List (ClassId × FieldType)) (h : Nat) (q : Nat → Nat) (i : Nat → Int32) (f : Nat → Int32) (n1 : Int32) (h1 : i 1 = 4) : WrV l D cI cB cZ cJ tx yX12_push cX12_push 3 none 0 0 0 [.ref h, .int n1] [(h, .inr (12, mG q i)), (q 0, .inl (cB, 220, .inl f))] (fun (u : (Nat → Int32) × (Nat → Int32)) => u.1 1 = 8) (fun u => [(h, .inr (12, mG q u.1)), (q 0, .inl (cB, 220, .inl u.2))]) := by
  refine wrv_of2 (by decide) (Nat.le_of_ble_eq_true rfl) ?_
  intro p e s m below meth c A ls H locs hC hK hP hD hA hS hl
  obtain ⟨hx, hb, hr, hml, hown, hts, hlocks, hin⟩ := hC
  have hown : s.vm.findClass RX12 = some m.cls := hown
  have hl : lv_has ls 3 [(0, .ref h), (1, .int n1)] := hl
  refine lv_bipush (v := 24) hx hb dX12_push_0 (by decide) ?_
  refine lv_istore_n (lv' := [(2, .int 24), (0, .ref h), (1, .int n1)]) hx hb dX12_push_2 rfl hl (by decide) rfl (fun ls hl => ?_)
  refine lv_iload_n hx hb dX12_push_3 rfl (lv_at hl 0 rfl) ?_
  refine lv_if_lt (tgt := 36) hx hb dX12_push_4 (by decide) (fun c => absurd c (by decide)) (fun _ => ?_)
  refine lv_aload_n hx hb dX12_push_7 rfl (lv_at hl 1 rfl) ?_
  refine va_get (D := D) (ci := 12) (v := .ref (q 0)) (C := RX12) (T := TX12) (N := 81) hx hb hts inT_X12 hown hK.1 hP 0 rfl rfl 0 (by decide) (hts _ k_1353) (fun _ h9 => h9) rfl dX12_push_8 ?_
  refine lv_aload_n hx hb dX12_push_11 rfl (lv_at hl 1 rfl) ?_
  refine va_get (D := D) (ci := 12) (v := .int (i 1)) (C := RX12) (T := TX12) (N := 81) hx hb hts inT_X12 hown hK.1 hP 0 rfl rfl 1 (by decide) (hts _ k_1354) (fun _ h9 => h9) rfl dX12_push_12 ?_
  refine lv_topv (y := 4) h1 ?_
  refine lv_iload_n hx hb dX12_push_15 rfl (lv_at hl 2 rfl) ?_
  refine lv_iload_n hx hb dX12_push_16 rfl (lv_at hl 0 rfl) ?_
  refine lv_ishr hx hb dX12_push_17 ?_
  refine lv_topi (fun x_1 _ => ?_)
  refine lv_i2b hx hb dX12_push_18 rfl ?_
  refine lv_topi (fun x_2 _ => ?_)
  refine st_b hx hb hK hP hD hS 1 rfl (by unfold vp_in; decide) dX12_push_19 (fun f_3 H locs hP hD hS => ?_)
  have hP : va_P D vwCl [(h, .inr (12, mG q i)), (q 0, .inl (cB, 220, .inl f_3))] H := hP
  have hD : va_D A [(h, .inr (12, mG q i)), (q 0, .inl (cB, 220, .inl f_3))] := hD
  refine lv_aload_n hx hb dX12_push_20 rfl (lv_at hl 1 rfl) ?_
  refine lv_dup hx hb dX12_push_21 rfl ?_
  refine va_get (D := D) (ci := 12) (v := .int (i 1)) (C := RX12) (T := TX12) (N := 81) hx hb hts inT_X12 hown hK.1 hP 0 rfl rfl 1 (by decide) (hts _ k_1354) (fun _ h9 => h9) rfl dX12_push_22 ?_
  refine lv_topv (y := 4) h1 ?_
  refine lv_iconst (v := 1) hx hb dX12_push_25 (by decide) ?_
  refine lv_iadd hx hb dX12_push_26 ?_
  refine lv_topv (y := 5) (by decide) ?_
  refine va_put (D := D) (ci := 12) (v := .int 5) (ty := .int) (C := RX12) (T := TX12) (N := 81) hx hb hts inT_X12 tyX12 tyX12_ok nmX12 hown hK.1 hP hD hS 0 rfl rfl 1 (by decide) (hts _ k_1354) (fun _ h9 => h9) rfl (by decide +kernel) rfl rfl (Nat.le_of_ble_eq_true rfl) dX12_push_27 (fun H locs hP hD hS => ?_)
  obtain ⟨i_4, ei_4⟩ : ∃ z : Nat → Int32, z = upd i 1 5 := ⟨_, rfl⟩
  have hi_4_1 : i_4 1 = 5 := by rw [ei_4]; rfl
  have hP : va_P D vwCl [(h, .inr (12, mG q i_4)), (q 0, .inl (cB, 220, .inl f_3))] H := by rw [ei_4, ← mG_1]; exact hP
  have hD : va_D A [(h, .inr (12, mG q i_4)), (q 0, .inl (cB, 220, .inl f_3))] := by rw [ei_4, ← mG_1]; exact hD
  refine lv_iinc (v := 16) (lv' := [(2, .int 16), (0, .ref h), (1, .int n1)]) hx hb dX12_push_30 hl (k := 0) rfl (by decide) (by decide) rfl (fun ls hl => ?_)
  refine lv_goto (tgt := 3) hx hb dX12_push_33 (by decide) ?_
  refine lv_iload_n hx hb dX12_push_3 rfl (lv_at hl 0 rfl) ?_
  refine lv_if_lt (tgt := 36) hx hb dX12_push_4 (by decide) (fun c => absurd c (by decide)) (fun _ => ?_)
  refine lv_aload_n hx hb dX12_push_7 rfl (lv_at hl 1 rfl) ?_
  refine va_get (D := D) (ci := 12) (v := .ref (q 0)) (C := RX12) (T := TX12) (N := 81) hx hb hts inT_X12 hown hK.1 hP 0 rfl rfl 0 (by decide) (hts _ k_1353) (fun _ h9 => h9) rfl dX12_push_8 ?_
  refine lv_aload_n hx hb dX12_push_11 rfl (lv_at hl 1 rfl) ?_
  refine va_get (D := D) (ci := 12) (v := .int (i_4 1)) (C := RX12) (T := TX12) (N := 81) hx hb hts inT_X12 hown hK.1 hP 0 rfl rfl 1 (by decide) (hts _ k_1354) (fun _ h9 => h9) rfl dX12_push_12 ?_
  refine lv_topv (y := 5) hi_4_1 ?_
  refine lv_iload_n hx hb dX12_push_15 rfl (lv_at hl 2 rfl) ?_
  refine lv_iload_n hx hb dX12_push_16 rfl (lv_at hl 0 rfl) ?_
  refine lv_ishr hx hb dX12_push_17 ?_
  refine lv_topi (fun x_5 _ => ?_)
  refine lv_i2b hx hb dX12_push_18 rfl ?_
  refine lv_topi (fun x_6 _ => ?_)
  refine st_b hx hb hK hP hD hS 1 rfl (by unfold vp_in; decide) dX12_push_19 (fun f_7 H locs hP hD hS => ?_)
  have hP : va_P D vwCl [(h, .inr (12, mG q i_4)), (q 0, .inl (cB, 220, .inl f_7))] H := hP
  have hD : va_D A [(h, .inr (12, mG q i_4)), (q 0, .inl (cB, 220, .inl f_7))] := hD
  refine lv_aload_n hx hb dX12_push_20 rfl (lv_at hl 1 rfl) ?_
  refine lv_dup hx hb dX12_push_21 rfl ?_
  refine va_get (D := D) (ci := 12) (v := .int (i_4 1)) (C := RX12) (T := TX12) (N := 81) hx hb hts inT_X12 hown hK.1 hP 0 rfl rfl 1 (by decide) (hts _ k_1354) (fun _ h9 => h9) rfl dX12_push_22 ?_
  refine lv_topv (y := 5) hi_4_1 ?_
  refine lv_iconst (v := 1) hx hb dX12_push_25 (by decide) ?_
  refine lv_iadd hx hb dX12_push_26 ?_
  refine lv_topv (y := 6) (by decide) ?_
  refine va_put (D := D) (ci := 12) (v := .int 6) (ty := .int) (C := RX12) (T := TX12) (N := 81) hx hb hts inT_X12 tyX12 tyX12_ok nmX12 hown hK.1 hP hD hS 0 rfl rfl 1 (by decide) (hts _ k_1354) (fun _ h9 => h9) rfl (by decide +kernel) rfl rfl (Nat.le_of_ble_eq_true rfl) dX12_push_27 (fun H locs hP hD hS => ?_)
  obtain ⟨i_8, ei_8⟩ : ∃ z : Nat → Int32, z = upd i_4 1 6 := ⟨_, rfl⟩
  have hi_8_1 : i_8 1 = 6 := by rw [ei_8]; rfl
  have hP : va_P D vwCl [(h, .inr (12, mG q i_8)), (q 0, .inl (cB, 220, .inl f_7))] H := by rw [ei_8, ← mG_1]; exact hP
  have hD : va_D A [(h, .inr (12, mG q i_8)), (q 0, .inl (cB, 220, .inl f_7))] := by rw [ei_8, ← mG_1]; exact hD
  refine lv_iinc (v := 8) (lv' := [(2, .int 8), (0, .ref h), (1, .int n1)]) hx hb dX12_push_30 hl (k := 0) rfl (by decide) (by decide) rfl (fun ls hl => ?_)
  refine lv_goto (tgt := 3) hx hb dX12_push_33 (by decide) ?_
  refine lv_iload_n hx hb dX12_push_3 rfl (lv_at hl 0 rfl) ?_
  refine lv_if_lt (tgt := 36) hx hb dX12_push_4 (by decide) (fun c => absurd c (by decide)) (fun _ => ?_)
  refine lv_aload_n hx hb dX12_push_7 rfl (lv_at hl 1 rfl) ?_
  refine va_get (D := D) (ci := 12) (v := .ref (q 0)) (C := RX12) (T := TX12) (N := 81) hx hb hts inT_X12 hown hK.1 hP 0 rfl rfl 0 (by decide) (hts _ k_1353) (fun _ h9 => h9) rfl dX12_push_8 ?_
  refine lv_aload_n hx hb dX12_push_11 rfl (lv_at hl 1 rfl) ?_
  refine va_get (D := D) (ci := 12) (v := .int (i_8 1)) (C := RX12) (T := TX12) (N := 81) hx hb hts inT_X12 hown hK.1 hP 0 rfl rfl 1 (by decide) (hts _ k_1354) (fun _ h9 => h9) rfl dX12_push_12 ?_
  refine lv_topv (y := 6) hi_8_1 ?_
  refine lv_iload_n hx hb dX12_push_15 rfl (lv_at hl 2 rfl) ?_
  refine lv_iload_n hx hb dX12_push_16 rfl (lv_at hl 0 rfl) ?_
  refine lv_ishr hx hb dX12_push_17 ?_
  refine lv_topi (fun x_9 _ => ?_)
  refine lv_i2b hx hb dX12_push_18 rfl ?_
  refine lv_topi (fun x_10 _ => ?_)
  refine st_b hx hb hK hP hD hS 1 rfl (by unfold vp_in; decide) dX12_push_19 (fun f_11 H locs hP hD hS => ?_)
  have hP : va_P D vwCl [(h, .inr (12, mG q i_8)), (q 0, .inl (cB, 220, .inl f_11))] H := hP
  have hD : va_D A [(h, .inr (12, mG q i_8)), (q 0, .inl (cB, 220, .inl f_11))] := hD
  refine lv_aload_n hx hb dX12_push_20 rfl (lv_at hl 1 rfl) ?_
  refine lv_dup hx hb dX12_push_21 rfl ?_
  refine va_get (D := D) (ci := 12) (v := .int (i_8 1)) (C := RX12) (T := TX12) (N := 81) hx hb hts inT_X12 hown hK.1 hP 0 rfl rfl 1 (by decide) (hts _ k_1354) (fun _ h9 => h9) rfl dX12_push_22 ?_
  refine lv_topv (y := 6) hi_8_1 ?_
  refine lv_iconst (v := 1) hx hb dX12_push_25 (by decide) ?_
  refine lv_iadd hx hb dX12_push_26 ?_
  refine lv_topv (y := 7) (by decide) ?_
  refine va_put (D := D) (ci := 12) (v := .int 7) (ty := .int) (C := RX12) (T := TX12) (N := 81) hx hb hts inT_X12 tyX12 tyX12_ok nmX12 hown hK.1 hP hD hS 0 rfl rfl 1 (by decide) (hts _ k_1354) (fun _ h9 => h9) rfl (by decide +kernel) rfl rfl (Nat.le_of_ble_eq_true rfl) dX12_push_27 (fun H locs hP hD hS => ?_)
  obtain ⟨i_12, ei_12⟩ : ∃ z : Nat → Int32, z = upd i_8 1 7 := ⟨_, rfl⟩
  have hi_12_1 : i_12 1 = 7 := by rw [ei_12]; rfl
  have hP : va_P D vwCl [(h, .inr (12, mG q i_12)), (q 0, .inl (cB, 220, .inl f_11))] H := by rw [ei_12, ← mG_1]; exact hP
  have hD : va_D A [(h, .inr (12, mG q i_12)), (q 0, .inl (cB, 220, .inl f_11))] := by rw [ei_12, ← mG_1]; exact hD
  refine lv_iinc (v := 0) (lv' := [(2, .int 0), (0, .ref h), (1, .int n1)]) hx hb dX12_push_30 hl (k := 0) rfl (by decide) (by decide) rfl (fun ls hl => ?_)
  refine lv_goto (tgt := 3) hx hb dX12_push_33 (by decide) ?_
  refine lv_iload_n hx hb dX12_push_3 rfl (lv_at hl 0 rfl) ?_
  refine lv_if_lt (tgt := 36) hx hb dX12_push_4 (by decide) (fun c => absurd c (by decide)) (fun _ => ?_)
  refine lv_aload_n hx hb dX12_push_7 rfl (lv_at hl 1 rfl) ?_
  refine va_get (D := D) (ci := 12) (v := .ref (q 0)) (C := RX12) (T := TX12) (N := 81) hx hb hts inT_X12 hown hK.1 hP 0 rfl rfl 0 (by decide) (hts _ k_1353) (fun _ h9 => h9) rfl dX12_push_8 ?_
  refine lv_aload_n hx hb dX12_push_11 rfl (lv_at hl 1 rfl) ?_
  refine va_get (D := D) (ci := 12) (v := .int (i_12 1)) (C := RX12) (T := TX12) (N := 81) hx hb hts inT_X12 hown hK.1 hP 0 rfl rfl 1 (by decide) (hts _ k_1354) (fun _ h9 => h9) rfl dX12_push_12 ?_
  refine lv_topv (y := 7) hi_12_1 ?_
  refine lv_iload_n hx hb dX12_push_15 rfl (lv_at hl 2 rfl) ?_
  refine lv_iload_n hx hb dX12_push_16 rfl (lv_at hl 0 rfl) ?_
  refine lv_ishr hx hb dX12_push_17 ?_
  refine lv_topi (fun x_13 _ => ?_)
  refine lv_i2b hx hb dX12_push_18 rfl ?_
  refine lv_topi (fun x_14 _ => ?_)
  refine st_b hx hb hK hP hD hS 1 rfl (by unfold vp_in; decide) dX12_push_19 (fun f_15 H locs hP hD hS => ?_)
  have hP : va_P D vwCl [(h, .inr (12, mG q i_12)), (q 0, .inl (cB, 220, .inl f_15))] H := hP
  have hD : va_D A [(h, .inr (12, mG q i_12)), (q 0, .inl (cB, 220, .inl f_15))] := hD
  refine lv_aload_n hx hb dX12_push_20 rfl (lv_at hl 1 rfl) ?_
  refine lv_dup hx hb dX12_push_21 rfl ?_
  refine va_get (D := D) (ci := 12) (v := .int (i_12 1)) (C := RX12) (T := TX12) (N := 81) hx hb hts inT_X12 hown hK.1 hP 0 rfl rfl 1 (by decide) (hts _ k_1354) (fun _ h9 => h9) rfl dX12_push_22 ?_
  refine lv_topv (y := 7) hi_12_1 ?_
  refine lv_iconst (v := 1) hx hb dX12_push_25 (by decide) ?_
  refine lv_iadd hx hb dX12_push_26 ?_
  refine lv_topv (y := 8) (by decide) ?_
  refine va_put (D := D) (ci := 12) (v := .int 8) (ty := .int) (C := RX12) (T := TX12) (N := 81) hx hb hts inT_X12 tyX12 tyX12_ok nmX12 hown hK.1 hP hD hS 0 rfl rfl 1 (by decide) (hts _ k_1354) (fun _ h9 => h9) rfl (by decide +kernel) rfl rfl (Nat.le_of_ble_eq_true rfl) dX12_push_27 (fun H locs hP hD hS => ?_)
  obtain ⟨i_16, ei_16⟩ : ∃ z : Nat → Int32, z = upd i_12 1 8 := ⟨_, rfl⟩
  have hi_16_1 : i_16 1 = 8 := by rw [ei_16]; rfl
  have hP : va_P D vwCl [(h, .inr (12, mG q i_16)), (q 0, .inl (cB, 220, .inl f_15))] H := by rw [ei_16, ← mG_1]; exact hP
  have hD : va_D A [(h, .inr (12, mG q i_16)), (q 0, .inl (cB, 220, .inl f_15))] := by rw [ei_16, ← mG_1]; exact hD
  refine lv_iinc (v := (-8)) (lv' := [(2, .int (-8)), (0, .ref h), (1, .int n1)]) hx hb dX12_push_30 hl (k := 0) rfl (by decide) (by decide) rfl (fun ls hl => ?_)
  refine lv_goto (tgt := 3) hx hb dX12_push_33 (by decide) ?_
  refine lv_iload_n hx hb dX12_push_3 rfl (lv_at hl 0 rfl) ?_
  refine lv_if_lt (tgt := 36) hx hb dX12_push_4 (by decide) (fun _ => ?_) (fun c => absurd c (by decide))
  exact W.vret hx hb hr (fun t ht hW => ⟨⟨(i_16, f_15), rfl, hi_16_1, ⟨by rw [ht]; exact hP, hD⟩⟩, hS.F ht⟩) hS.2.2 dX12_push_36 hlocks

set_option maxHeartbeats 4000000 in
set_option maxRecDepth 100000 in
theorem c_X12_push_8 (l : Launch) (D : va_G) (cI cB cZ cJ : ClassId) (tx : List (ClassId × FieldType)) (h : Nat) (q : Nat → Nat) (i : Nat → Int32) (f : Nat → Int32) (n1 : Int32) (h1 : i 1 = 8) : WrV l D cI cB cZ cJ tx yX12_push cX12_push 3 none 0 0 0 [.ref h, .int n1] [(h, .inr (12, mG q i)), (q 0, .inl (cB, 220, .inl f))] (fun (u : (Nat → Int32) × (Nat → Int32)) => u.1 1 = 12) (fun u => [(h, .inr (12, mG q u.1)), (q 0, .inl (cB, 220, .inl u.2))]) := by
  refine wrv_of2 (by decide) (Nat.le_of_ble_eq_true rfl) ?_
  intro p e s m below meth c A ls H locs hC hK hP hD hA hS hl
  obtain ⟨hx, hb, hr, hml, hown, hts, hlocks, hin⟩ := hC
  have hown : s.vm.findClass RX12 = some m.cls := hown
  have hl : lv_has ls 3 [(0, .ref h), (1, .int n1)] := hl
  refine lv_bipush (v := 24) hx hb dX12_push_0 (by decide) ?_
  refine lv_istore_n (lv' := [(2, .int 24), (0, .ref h), (1, .int n1)]) hx hb dX12_push_2 rfl hl (by decide) rfl (fun ls hl => ?_)
  refine lv_iload_n hx hb dX12_push_3 rfl (lv_at hl 0 rfl) ?_
  refine lv_if_lt (tgt := 36) hx hb dX12_push_4 (by decide) (fun c => absurd c (by decide)) (fun _ => ?_)
  refine lv_aload_n hx hb dX12_push_7 rfl (lv_at hl 1 rfl) ?_
  refine va_get (D := D) (ci := 12) (v := .ref (q 0)) (C := RX12) (T := TX12) (N := 81) hx hb hts inT_X12 hown hK.1 hP 0 rfl rfl 0 (by decide) (hts _ k_1353) (fun _ h9 => h9) rfl dX12_push_8 ?_
  refine lv_aload_n hx hb dX12_push_11 rfl (lv_at hl 1 rfl) ?_
  refine va_get (D := D) (ci := 12) (v := .int (i 1)) (C := RX12) (T := TX12) (N := 81) hx hb hts inT_X12 hown hK.1 hP 0 rfl rfl 1 (by decide) (hts _ k_1354) (fun _ h9 => h9) rfl dX12_push_12 ?_
  refine lv_topv (y := 8) h1 ?_
  refine lv_iload_n hx hb dX12_push_15 rfl (lv_at hl 2 rfl) ?_
  refine lv_iload_n hx hb dX12_push_16 rfl (lv_at hl 0 rfl) ?_
  refine lv_ishr hx hb dX12_push_17 ?_
  refine lv_topi (fun x_1 _ => ?_)
  refine lv_i2b hx hb dX12_push_18 rfl ?_
  refine lv_topi (fun x_2 _ => ?_)
  refine st_b hx hb hK hP hD hS 1 rfl (by unfold vp_in; decide) dX12_push_19 (fun f_3 H locs hP hD hS => ?_)
  have hP : va_P D vwCl [(h, .inr (12, mG q i)), (q 0, .inl (cB, 220, .inl f_3))] H := hP
  have hD : va_D A [(h, .inr (12, mG q i)), (q 0, .inl (cB, 220, .inl f_3))] := hD
  refine lv_aload_n hx hb dX12_push_20 rfl (lv_at hl 1 rfl) ?_
  refine lv_dup hx hb dX12_push_21 rfl ?_
  refine va_get (D := D) (ci := 12) (v := .int (i 1)) (C := RX12) (T := TX12) (N := 81) hx hb hts inT_X12 hown hK.1 hP 0 rfl rfl 1 (by decide) (hts _ k_1354) (fun _ h9 => h9) rfl dX12_push_22 ?_
  refine lv_topv (y := 8) h1 ?_
  refine lv_iconst (v := 1) hx hb dX12_push_25 (by decide) ?_
  refine lv_iadd hx hb dX12_push_26 ?_
  refine lv_topv (y := 9) (by decide) ?_
  refine va_put (D := D) (ci := 12) (v := .int 9) (ty := .int) (C := RX12) (T := TX12) (N := 81) hx hb hts inT_X12 tyX12 tyX12_ok nmX12 hown hK.1 hP hD hS 0 rfl rfl 1 (by decide) (hts _ k_1354) (fun _ h9 => h9) rfl (by decide +kernel) rfl rfl (Nat.le_of_ble_eq_true rfl) dX12_push_27 (fun H locs hP hD hS => ?_)
  obtain ⟨i_4, ei_4⟩ : ∃ z : Nat → Int32, z = upd i 1 9 := ⟨_, rfl⟩
  have hi_4_1 : i_4 1 = 9 := by rw [ei_4]; rfl
  have hP : va_P D vwCl [(h, .inr (12, mG q i_4)), (q 0, .inl (cB, 220, .inl f_3))] H := by rw [ei_4, ← mG_1]; exact hP
  have hD : va_D A [(h, .inr (12, mG q i_4)), (q 0, .inl (cB, 220, .inl f_3))] := by rw [ei_4, ← mG_1]; exact hD
  refine lv_iinc (v := 16) (lv' := [(2, .int 16), (0, .ref h), (1, .int n1)]) hx hb dX12_push_30 hl (k := 0) rfl (by decide) (by decide) rfl (fun ls hl => ?_)
  refine lv_goto (tgt := 3) hx hb dX12_push_33 (by decide) ?_
  refine lv_iload_n hx hb dX12_push_3 rfl (lv_at hl 0 rfl) ?_
  refine lv_if_lt (tgt := 36) hx hb dX12_push_4 (by decide) (fun c => absurd c (by decide)) (fun _ => ?_)
  refine lv_aload_n hx hb dX12_push_7 rfl (lv_at hl 1 rfl) ?_
  refine va_get (D := D) (ci := 12) (v := .ref (q 0)) (C := RX12) (T := TX12) (N := 81) hx hb hts inT_X12 hown hK.1 hP 0 rfl rfl 0 (by decide) (hts _ k_1353) (fun _ h9 => h9) rfl dX12_push_8 ?_
  refine lv_aload_n hx hb dX12_push_11 rfl (lv_at hl 1 rfl) ?_
  refine va_get (D := D) (ci := 12) (v := .int (i_4 1)) (C := RX12) (T := TX12) (N := 81) hx hb hts inT_X12 hown hK.1 hP 0 rfl rfl 1 (by decide) (hts _ k_1354) (fun _ h9 => h9) rfl dX12_push_12 ?_
  refine lv_topv (y := 9) hi_4_1 ?_
  refine lv_iload_n hx hb dX12_push_15 rfl (lv_at hl 2 rfl) ?_
  refine lv_iload_n hx hb dX12_push_16 rfl (lv_at hl 0 rfl) ?_
  refine lv_ishr hx hb dX12_push_17 ?_
  refine lv_topi (fun x_5 _ => ?_)
  refine lv_i2b hx hb dX12_push_18 rfl ?_
  refine lv_topi (fun x_6 _ => ?_)
  refine st_b hx hb hK hP hD hS 1 rfl (by unfold vp_in; decide) dX12_push_19 (fun f_7 H locs hP hD hS => ?_)
  have hP : va_P D vwCl [(h, .inr (12, mG q i_4)), (q 0, .inl (cB, 220, .inl f_7))] H := hP
  have hD : va_D A [(h, .inr (12, mG q i_4)), (q 0, .inl (cB, 220, .inl f_7))] := hD
  refine lv_aload_n hx hb dX12_push_20 rfl (lv_at hl 1 rfl) ?_
  refine lv_dup hx hb dX12_push_21 rfl ?_
  refine va_get (D := D) (ci := 12) (v := .int (i_4 1)) (C := RX12) (T := TX12) (N := 81) hx hb hts inT_X12 hown hK.1 hP 0 rfl rfl 1 (by decide) (hts _ k_1354) (fun _ h9 => h9) rfl dX12_push_22 ?_
  refine lv_topv (y := 9) hi_4_1 ?_
  refine lv_iconst (v := 1) hx hb dX12_push_25 (by decide) ?_
  refine lv_iadd hx hb dX12_push_26 ?_
  refine lv_topv (y := 10) (by decide) ?_
  refine va_put (D := D) (ci := 12) (v := .int 10) (ty := .int) (C := RX12) (T := TX12) (N := 81) hx hb hts inT_X12 tyX12 tyX12_ok nmX12 hown hK.1 hP hD hS 0 rfl rfl 1 (by decide) (hts _ k_1354) (fun _ h9 => h9) rfl (by decide +kernel) rfl rfl (Nat.le_of_ble_eq_true rfl) dX12_push_27 (fun H locs hP hD hS => ?_)
  obtain ⟨i_8, ei_8⟩ : ∃ z : Nat → Int32, z = upd i_4 1 10 := ⟨_, rfl⟩
  have hi_8_1 : i_8 1 = 10 := by rw [ei_8]; rfl
  have hP : va_P D vwCl [(h, .inr (12, mG q i_8)), (q 0, .inl (cB, 220, .inl f_7))] H := by rw [ei_8, ← mG_1]; exact hP
  have hD : va_D A [(h, .inr (12, mG q i_8)), (q 0, .inl (cB, 220, .inl f_7))] := by rw [ei_8, ← mG_1]; exact hD
  refine lv_iinc (v := 8) (lv' := [(2, .int 8), (0, .ref h), (1, .int n1)]) hx hb dX12_push_30 hl (k := 0) rfl (by decide) (by decide) rfl (fun ls hl => ?_)
  refine lv_goto (tgt := 3) hx hb dX12_push_33 (by decide) ?_
  refine lv_iload_n hx hb dX12_push_3 rfl (lv_at hl 0 rfl) ?_
  refine lv_if_lt (tgt := 36) hx hb dX12_push_4 (by decide) (fun c => absurd c (by decide)) (fun _ => ?_)
  refine lv_aload_n hx hb dX12_push_7 rfl (lv_at hl 1 rfl) ?_
  refine va_get (D := D) (ci := 12) (v := .ref (q 0)) (C := RX12) (T := TX12) (N := 81) hx hb hts inT_X12 hown hK.1 hP 0 rfl rfl 0 (by decide) (hts _ k_1353) (fun _ h9 => h9) rfl dX12_push_8 ?_
  refine lv_aload_n hx hb dX12_push_11 rfl (lv_at hl 1 rfl) ?_
  refine va_get (D := D) (ci := 12) (v := .int (i_8 1)) (C := RX12) (T := TX12) (N := 81) hx hb hts inT_X12 hown hK.1 hP 0 rfl rfl 1 (by decide) (hts _ k_1354) (fun _ h9 => h9) rfl dX12_push_12 ?_
  refine lv_topv (y := 10) hi_8_1 ?_
  refine lv_iload_n hx hb dX12_push_15 rfl (lv_at hl 2 rfl) ?_
  refine lv_iload_n hx hb dX12_push_16 rfl (lv_at hl 0 rfl) ?_
  refine lv_ishr hx hb dX12_push_17 ?_
  refine lv_topi (fun x_9 _ => ?_)
  refine lv_i2b hx hb dX12_push_18 rfl ?_
  refine lv_topi (fun x_10 _ => ?_)
  refine st_b hx hb hK hP hD hS 1 rfl (by unfold vp_in; decide) dX12_push_19 (fun f_11 H locs hP hD hS => ?_)
  have hP : va_P D vwCl [(h, .inr (12, mG q i_8)), (q 0, .inl (cB, 220, .inl f_11))] H := hP
  have hD : va_D A [(h, .inr (12, mG q i_8)), (q 0, .inl (cB, 220, .inl f_11))] := hD
  refine lv_aload_n hx hb dX12_push_20 rfl (lv_at hl 1 rfl) ?_
  refine lv_dup hx hb dX12_push_21 rfl ?_
  refine va_get (D := D) (ci := 12) (v := .int (i_8 1)) (C := RX12) (T := TX12) (N := 81) hx hb hts inT_X12 hown hK.1 hP 0 rfl rfl 1 (by decide) (hts _ k_1354) (fun _ h9 => h9) rfl dX12_push_22 ?_
  refine lv_topv (y := 10) hi_8_1 ?_
  refine lv_iconst (v := 1) hx hb dX12_push_25 (by decide) ?_
  refine lv_iadd hx hb dX12_push_26 ?_
  refine lv_topv (y := 11) (by decide) ?_
  refine va_put (D := D) (ci := 12) (v := .int 11) (ty := .int) (C := RX12) (T := TX12) (N := 81) hx hb hts inT_X12 tyX12 tyX12_ok nmX12 hown hK.1 hP hD hS 0 rfl rfl 1 (by decide) (hts _ k_1354) (fun _ h9 => h9) rfl (by decide +kernel) rfl rfl (Nat.le_of_ble_eq_true rfl) dX12_push_27 (fun H locs hP hD hS => ?_)
  obtain ⟨i_12, ei_12⟩ : ∃ z : Nat → Int32, z = upd i_8 1 11 := ⟨_, rfl⟩
  have hi_12_1 : i_12 1 = 11 := by rw [ei_12]; rfl
  have hP : va_P D vwCl [(h, .inr (12, mG q i_12)), (q 0, .inl (cB, 220, .inl f_11))] H := by rw [ei_12, ← mG_1]; exact hP
  have hD : va_D A [(h, .inr (12, mG q i_12)), (q 0, .inl (cB, 220, .inl f_11))] := by rw [ei_12, ← mG_1]; exact hD
  refine lv_iinc (v := 0) (lv' := [(2, .int 0), (0, .ref h), (1, .int n1)]) hx hb dX12_push_30 hl (k := 0) rfl (by decide) (by decide) rfl (fun ls hl => ?_)
  refine lv_goto (tgt := 3) hx hb dX12_push_33 (by decide) ?_
  refine lv_iload_n hx hb dX12_push_3 rfl (lv_at hl 0 rfl) ?_
  refine lv_if_lt (tgt := 36) hx hb dX12_push_4 (by decide) (fun c => absurd c (by decide)) (fun _ => ?_)
  refine lv_aload_n hx hb dX12_push_7 rfl (lv_at hl 1 rfl) ?_
  refine va_get (D := D) (ci := 12) (v := .ref (q 0)) (C := RX12) (T := TX12) (N := 81) hx hb hts inT_X12 hown hK.1 hP 0 rfl rfl 0 (by decide) (hts _ k_1353) (fun _ h9 => h9) rfl dX12_push_8 ?_
  refine lv_aload_n hx hb dX12_push_11 rfl (lv_at hl 1 rfl) ?_
  refine va_get (D := D) (ci := 12) (v := .int (i_12 1)) (C := RX12) (T := TX12) (N := 81) hx hb hts inT_X12 hown hK.1 hP 0 rfl rfl 1 (by decide) (hts _ k_1354) (fun _ h9 => h9) rfl dX12_push_12 ?_
  refine lv_topv (y := 11) hi_12_1 ?_
  refine lv_iload_n hx hb dX12_push_15 rfl (lv_at hl 2 rfl) ?_
  refine lv_iload_n hx hb dX12_push_16 rfl (lv_at hl 0 rfl) ?_
  refine lv_ishr hx hb dX12_push_17 ?_
  refine lv_topi (fun x_13 _ => ?_)
  refine lv_i2b hx hb dX12_push_18 rfl ?_
  refine lv_topi (fun x_14 _ => ?_)
  refine st_b hx hb hK hP hD hS 1 rfl (by unfold vp_in; decide) dX12_push_19 (fun f_15 H locs hP hD hS => ?_)
  have hP : va_P D vwCl [(h, .inr (12, mG q i_12)), (q 0, .inl (cB, 220, .inl f_15))] H := hP
  have hD : va_D A [(h, .inr (12, mG q i_12)), (q 0, .inl (cB, 220, .inl f_15))] := hD
  refine lv_aload_n hx hb dX12_push_20 rfl (lv_at hl 1 rfl) ?_
  refine lv_dup hx hb dX12_push_21 rfl ?_
  refine va_get (D := D) (ci := 12) (v := .int (i_12 1)) (C := RX12) (T := TX12) (N := 81) hx hb hts inT_X12 hown hK.1 hP 0 rfl rfl 1 (by decide) (hts _ k_1354) (fun _ h9 => h9) rfl dX12_push_22 ?_
  refine lv_topv (y := 11) hi_12_1 ?_
  refine lv_iconst (v := 1) hx hb dX12_push_25 (by decide) ?_
  refine lv_iadd hx hb dX12_push_26 ?_
  refine lv_topv (y := 12) (by decide) ?_
  refine va_put (D := D) (ci := 12) (v := .int 12) (ty := .int) (C := RX12) (T := TX12) (N := 81) hx hb hts inT_X12 tyX12 tyX12_ok nmX12 hown hK.1 hP hD hS 0 rfl rfl 1 (by decide) (hts _ k_1354) (fun _ h9 => h9) rfl (by decide +kernel) rfl rfl (Nat.le_of_ble_eq_true rfl) dX12_push_27 (fun H locs hP hD hS => ?_)
  obtain ⟨i_16, ei_16⟩ : ∃ z : Nat → Int32, z = upd i_12 1 12 := ⟨_, rfl⟩
  have hi_16_1 : i_16 1 = 12 := by rw [ei_16]; rfl
  have hP : va_P D vwCl [(h, .inr (12, mG q i_16)), (q 0, .inl (cB, 220, .inl f_15))] H := by rw [ei_16, ← mG_1]; exact hP
  have hD : va_D A [(h, .inr (12, mG q i_16)), (q 0, .inl (cB, 220, .inl f_15))] := by rw [ei_16, ← mG_1]; exact hD
  refine lv_iinc (v := (-8)) (lv' := [(2, .int (-8)), (0, .ref h), (1, .int n1)]) hx hb dX12_push_30 hl (k := 0) rfl (by decide) (by decide) rfl (fun ls hl => ?_)
  refine lv_goto (tgt := 3) hx hb dX12_push_33 (by decide) ?_
  refine lv_iload_n hx hb dX12_push_3 rfl (lv_at hl 0 rfl) ?_
  refine lv_if_lt (tgt := 36) hx hb dX12_push_4 (by decide) (fun _ => ?_) (fun c => absurd c (by decide))
  exact W.vret hx hb hr (fun t ht hW => ⟨⟨(i_16, f_15), rfl, hi_16_1, ⟨by rw [ht]; exact hP, hD⟩⟩, hS.F ht⟩) hS.2.2 dX12_push_36 hlocks

set_option maxHeartbeats 4000000 in
set_option maxRecDepth 100000 in
theorem c_X12_push_12 (l : Launch) (D : va_G) (cI cB cZ cJ : ClassId) (tx : List (ClassId × FieldType)) (h : Nat) (q : Nat → Nat) (i : Nat → Int32) (f : Nat → Int32) (n1 : Int32) (h1 : i 1 = 12) : WrV l D cI cB cZ cJ tx yX12_push cX12_push 3 none 0 0 0 [.ref h, .int n1] [(h, .inr (12, mG q i)), (q 0, .inl (cB, 220, .inl f))] (fun (u : (Nat → Int32) × (Nat → Int32)) => u.1 1 = 16) (fun u => [(h, .inr (12, mG q u.1)), (q 0, .inl (cB, 220, .inl u.2))]) := by
  refine wrv_of2 (by decide) (Nat.le_of_ble_eq_true rfl) ?_
  intro p e s m below meth c A ls H locs hC hK hP hD hA hS hl
  obtain ⟨hx, hb, hr, hml, hown, hts, hlocks, hin⟩ := hC
  have hown : s.vm.findClass RX12 = some m.cls := hown
  have hl : lv_has ls 3 [(0, .ref h), (1, .int n1)] := hl
  refine lv_bipush (v := 24) hx hb dX12_push_0 (by decide) ?_
  refine lv_istore_n (lv' := [(2, .int 24), (0, .ref h), (1, .int n1)]) hx hb dX12_push_2 rfl hl (by decide) rfl (fun ls hl => ?_)
  refine lv_iload_n hx hb dX12_push_3 rfl (lv_at hl 0 rfl) ?_
  refine lv_if_lt (tgt := 36) hx hb dX12_push_4 (by decide) (fun c => absurd c (by decide)) (fun _ => ?_)
  refine lv_aload_n hx hb dX12_push_7 rfl (lv_at hl 1 rfl) ?_
  refine va_get (D := D) (ci := 12) (v := .ref (q 0)) (C := RX12) (T := TX12) (N := 81) hx hb hts inT_X12 hown hK.1 hP 0 rfl rfl 0 (by decide) (hts _ k_1353) (fun _ h9 => h9) rfl dX12_push_8 ?_
  refine lv_aload_n hx hb dX12_push_11 rfl (lv_at hl 1 rfl) ?_
  refine va_get (D := D) (ci := 12) (v := .int (i 1)) (C := RX12) (T := TX12) (N := 81) hx hb hts inT_X12 hown hK.1 hP 0 rfl rfl 1 (by decide) (hts _ k_1354) (fun _ h9 => h9) rfl dX12_push_12 ?_
  refine lv_topv (y := 12) h1 ?_
  refine lv_iload_n hx hb dX12_push_15 rfl (lv_at hl 2 rfl) ?_
  refine lv_iload_n hx hb dX12_push_16 rfl (lv_at hl 0 rfl) ?_
  refine lv_ishr hx hb dX12_push_17 ?_
  refine lv_topi (fun x_1 _ => ?_)
  refine lv_i2b hx hb dX12_push_18 rfl ?_
  refine lv_topi (fun x_2 _ => ?_)
  refine st_b hx hb hK hP hD hS 1 rfl (by unfold vp_in; decide) dX12_push_19 (fun f_3 H locs hP hD hS => ?_)
  have hP : va_P D vwCl [(h, .inr (12, mG q i)), (q 0, .inl (cB, 220, .inl f_3))] H := hP
  have hD : va_D A [(h, .inr (12, mG q i)), (q 0, .inl (cB, 220, .inl f_3))] := hD
  refine lv_aload_n hx hb dX12_push_20 rfl (lv_at hl 1 rfl) ?_
  refine lv_dup hx hb dX12_push_21 rfl ?_
  refine va_get (D := D) (ci := 12) (v := .int (i 1)) (C := RX12) (T := TX12) (N := 81) hx hb hts inT_X12 hown hK.1 hP 0 rfl rfl 1 (by decide) (hts _ k_1354) (fun _ h9 => h9) rfl dX12_push_22 ?_
  refine lv_topv (y := 12) h1 ?_
  refine lv_iconst (v := 1) hx hb dX12_push_25 (by decide) ?_
  refine lv_iadd hx hb dX12_push_26 ?_
  refine lv_topv (y := 13) (by decide) ?_
  refine va_put (D := D) (ci := 12) (v := .int 13) (ty := .int) (C := RX12) (T := TX12) (N := 81) hx hb hts inT_X12 tyX12 tyX12_ok nmX12 hown hK.1 hP hD hS 0 rfl rfl 1 (by decide) (hts _ k_1354) (fun _ h9 => h9) rfl (by decide +kernel) rfl rfl (Nat.le_of_ble_eq_true rfl) dX12_push_27 (fun H locs hP hD hS => ?_)
  obtain ⟨i_4, ei_4⟩ : ∃ z : Nat → Int32, z = upd i 1 13 := ⟨_, rfl⟩
  have hi_4_1 : i_4 1 = 13 := by rw [ei_4]; rfl
  have hP : va_P D vwCl [(h, .inr (12, mG q i_4)), (q 0, .inl (cB, 220, .inl f_3))] H := by rw [ei_4, ← mG_1]; exact hP
  have hD : va_D A [(h, .inr (12, mG q i_4)), (q 0, .inl (cB, 220, .inl f_3))] := by rw [ei_4, ← mG_1]; exact hD
  refine lv_iinc (v := 16) (lv' := [(2, .int 16), (0, .ref h), (1, .int n1)]) hx hb dX12_push_30 hl (k := 0) rfl (by decide) (by decide) rfl (fun ls hl => ?_)
  refine lv_goto (tgt := 3) hx hb dX12_push_33 (by decide) ?_
  refine lv_iload_n hx hb dX12_push_3 rfl (lv_at hl 0 rfl) ?_
  refine lv_if_lt (tgt := 36) hx hb dX12_push_4 (by decide) (fun c => absurd c (by decide)) (fun _ => ?_)
  refine lv_aload_n hx hb dX12_push_7 rfl (lv_at hl 1 rfl) ?_
  refine va_get (D := D) (ci := 12) (v := .ref (q 0)) (C := RX12) (T := TX12) (N := 81) hx hb hts inT_X12 hown hK.1 hP 0 rfl rfl 0 (by decide) (hts _ k_1353) (fun _ h9 => h9) rfl dX12_push_8 ?_
  refine lv_aload_n hx hb dX12_push_11 rfl (lv_at hl 1 rfl) ?_
  refine va_get (D := D) (ci := 12) (v := .int (i_4 1)) (C := RX12) (T := TX12) (N := 81) hx hb hts inT_X12 hown hK.1 hP 0 rfl rfl 1 (by decide) (hts _ k_1354) (fun _ h9 => h9) rfl dX12_push_12 ?_
  refine lv_topv (y := 13) hi_4_1 ?_
  refine lv_iload_n hx hb dX12_push_15 rfl (lv_at hl 2 rfl) ?_
  refine lv_iload_n hx hb dX12_push_16 rfl (lv_at hl 0 rfl) ?_
  refine lv_ishr hx hb dX12_push_17 ?_
  refine lv_topi (fun x_5 _ => ?_)
  refine lv_i2b hx hb dX12_push_18 rfl ?_
  refine lv_topi (fun x_6 _ => ?_)
  refine st_b hx hb hK hP hD hS 1 rfl (by unfold vp_in; decide) dX12_push_19 (fun f_7 H locs hP hD hS => ?_)
  have hP : va_P D vwCl [(h, .inr (12, mG q i_4)), (q 0, .inl (cB, 220, .inl f_7))] H := hP
  have hD : va_D A [(h, .inr (12, mG q i_4)), (q 0, .inl (cB, 220, .inl f_7))] := hD
  refine lv_aload_n hx hb dX12_push_20 rfl (lv_at hl 1 rfl) ?_
  refine lv_dup hx hb dX12_push_21 rfl ?_
  refine va_get (D := D) (ci := 12) (v := .int (i_4 1)) (C := RX12) (T := TX12) (N := 81) hx hb hts inT_X12 hown hK.1 hP 0 rfl rfl 1 (by decide) (hts _ k_1354) (fun _ h9 => h9) rfl dX12_push_22 ?_
  refine lv_topv (y := 13) hi_4_1 ?_
  refine lv_iconst (v := 1) hx hb dX12_push_25 (by decide) ?_
  refine lv_iadd hx hb dX12_push_26 ?_
  refine lv_topv (y := 14) (by decide) ?_
  refine va_put (D := D) (ci := 12) (v := .int 14) (ty := .int) (C := RX12) (T := TX12) (N := 81) hx hb hts inT_X12 tyX12 tyX12_ok nmX12 hown hK.1 hP hD hS 0 rfl rfl 1 (by decide) (hts _ k_1354) (fun _ h9 => h9) rfl (by decide +kernel) rfl rfl (Nat.le_of_ble_eq_true rfl) dX12_push_27 (fun H locs hP hD hS => ?_)
  obtain ⟨i_8, ei_8⟩ : ∃ z : Nat → Int32, z = upd i_4 1 14 := ⟨_, rfl⟩
  have hi_8_1 : i_8 1 = 14 := by rw [ei_8]; rfl
  have hP : va_P D vwCl [(h, .inr (12, mG q i_8)), (q 0, .inl (cB, 220, .inl f_7))] H := by rw [ei_8, ← mG_1]; exact hP
  have hD : va_D A [(h, .inr (12, mG q i_8)), (q 0, .inl (cB, 220, .inl f_7))] := by rw [ei_8, ← mG_1]; exact hD
  refine lv_iinc (v := 8) (lv' := [(2, .int 8), (0, .ref h), (1, .int n1)]) hx hb dX12_push_30 hl (k := 0) rfl (by decide) (by decide) rfl (fun ls hl => ?_)
  refine lv_goto (tgt := 3) hx hb dX12_push_33 (by decide) ?_
  refine lv_iload_n hx hb dX12_push_3 rfl (lv_at hl 0 rfl) ?_
  refine lv_if_lt (tgt := 36) hx hb dX12_push_4 (by decide) (fun c => absurd c (by decide)) (fun _ => ?_)
  refine lv_aload_n hx hb dX12_push_7 rfl (lv_at hl 1 rfl) ?_
  refine va_get (D := D) (ci := 12) (v := .ref (q 0)) (C := RX12) (T := TX12) (N := 81) hx hb hts inT_X12 hown hK.1 hP 0 rfl rfl 0 (by decide) (hts _ k_1353) (fun _ h9 => h9) rfl dX12_push_8 ?_
  refine lv_aload_n hx hb dX12_push_11 rfl (lv_at hl 1 rfl) ?_
  refine va_get (D := D) (ci := 12) (v := .int (i_8 1)) (C := RX12) (T := TX12) (N := 81) hx hb hts inT_X12 hown hK.1 hP 0 rfl rfl 1 (by decide) (hts _ k_1354) (fun _ h9 => h9) rfl dX12_push_12 ?_
  refine lv_topv (y := 14) hi_8_1 ?_
  refine lv_iload_n hx hb dX12_push_15 rfl (lv_at hl 2 rfl) ?_
  refine lv_iload_n hx hb dX12_push_16 rfl (lv_at hl 0 rfl) ?_
  refine lv_ishr hx hb dX12_push_17 ?_
  refine lv_topi (fun x_9 _ => ?_)
  refine lv_i2b hx hb dX12_push_18 rfl ?_
  refine lv_topi (fun x_10 _ => ?_)
  refine st_b hx hb hK hP hD hS 1 rfl (by unfold vp_in; decide) dX12_push_19 (fun f_11 H locs hP hD hS => ?_)
  have hP : va_P D vwCl [(h, .inr (12, mG q i_8)), (q 0, .inl (cB, 220, .inl f_11))] H := hP
  have hD : va_D A [(h, .inr (12, mG q i_8)), (q 0, .inl (cB, 220, .inl f_11))] := hD
  refine lv_aload_n hx hb dX12_push_20 rfl (lv_at hl 1 rfl) ?_
  refine lv_dup hx hb dX12_push_21 rfl ?_
  refine va_get (D := D) (ci := 12) (v := .int (i_8 1)) (C := RX12) (T := TX12) (N := 81) hx hb hts inT_X12 hown hK.1 hP 0 rfl rfl 1 (by decide) (hts _ k_1354) (fun _ h9 => h9) rfl dX12_push_22 ?_
  refine lv_topv (y := 14) hi_8_1 ?_
  refine lv_iconst (v := 1) hx hb dX12_push_25 (by decide) ?_
  refine lv_iadd hx hb dX12_push_26 ?_
  refine lv_topv (y := 15) (by decide) ?_
  refine va_put (D := D) (ci := 12) (v := .int 15) (ty := .int) (C := RX12) (T := TX12) (N := 81) hx hb hts inT_X12 tyX12 tyX12_ok nmX12 hown hK.1 hP hD hS 0 rfl rfl 1 (by decide) (hts _ k_1354) (fun _ h9 => h9) rfl (by decide +kernel) rfl rfl (Nat.le_of_ble_eq_true rfl) dX12_push_27 (fun H locs hP hD hS => ?_)
  obtain ⟨i_12, ei_12⟩ : ∃ z : Nat → Int32, z = upd i_8 1 15 := ⟨_, rfl⟩
  have hi_12_1 : i_12 1 = 15 := by rw [ei_12]; rfl
  have hP : va_P D vwCl [(h, .inr (12, mG q i_12)), (q 0, .inl (cB, 220, .inl f_11))] H := by rw [ei_12, ← mG_1]; exact hP
  have hD : va_D A [(h, .inr (12, mG q i_12)), (q 0, .inl (cB, 220, .inl f_11))] := by rw [ei_12, ← mG_1]; exact hD
  refine lv_iinc (v := 0) (lv' := [(2, .int 0), (0, .ref h), (1, .int n1)]) hx hb dX12_push_30 hl (k := 0) rfl (by decide) (by decide) rfl (fun ls hl => ?_)
  refine lv_goto (tgt := 3) hx hb dX12_push_33 (by decide) ?_
  refine lv_iload_n hx hb dX12_push_3 rfl (lv_at hl 0 rfl) ?_
  refine lv_if_lt (tgt := 36) hx hb dX12_push_4 (by decide) (fun c => absurd c (by decide)) (fun _ => ?_)
  refine lv_aload_n hx hb dX12_push_7 rfl (lv_at hl 1 rfl) ?_
  refine va_get (D := D) (ci := 12) (v := .ref (q 0)) (C := RX12) (T := TX12) (N := 81) hx hb hts inT_X12 hown hK.1 hP 0 rfl rfl 0 (by decide) (hts _ k_1353) (fun _ h9 => h9) rfl dX12_push_8 ?_
  refine lv_aload_n hx hb dX12_push_11 rfl (lv_at hl 1 rfl) ?_
  refine va_get (D := D) (ci := 12) (v := .int (i_12 1)) (C := RX12) (T := TX12) (N := 81) hx hb hts inT_X12 hown hK.1 hP 0 rfl rfl 1 (by decide) (hts _ k_1354) (fun _ h9 => h9) rfl dX12_push_12 ?_
  refine lv_topv (y := 15) hi_12_1 ?_
  refine lv_iload_n hx hb dX12_push_15 rfl (lv_at hl 2 rfl) ?_
  refine lv_iload_n hx hb dX12_push_16 rfl (lv_at hl 0 rfl) ?_
  refine lv_ishr hx hb dX12_push_17 ?_
  refine lv_topi (fun x_13 _ => ?_)
  refine lv_i2b hx hb dX12_push_18 rfl ?_
  refine lv_topi (fun x_14 _ => ?_)
  refine st_b hx hb hK hP hD hS 1 rfl (by unfold vp_in; decide) dX12_push_19 (fun f_15 H locs hP hD hS => ?_)
  have hP : va_P D vwCl [(h, .inr (12, mG q i_12)), (q 0, .inl (cB, 220, .inl f_15))] H := hP
  have hD : va_D A [(h, .inr (12, mG q i_12)), (q 0, .inl (cB, 220, .inl f_15))] := hD
  refine lv_aload_n hx hb dX12_push_20 rfl (lv_at hl 1 rfl) ?_
  refine lv_dup hx hb dX12_push_21 rfl ?_
  refine va_get (D := D) (ci := 12) (v := .int (i_12 1)) (C := RX12) (T := TX12) (N := 81) hx hb hts inT_X12 hown hK.1 hP 0 rfl rfl 1 (by decide) (hts _ k_1354) (fun _ h9 => h9) rfl dX12_push_22 ?_
  refine lv_topv (y := 15) hi_12_1 ?_
  refine lv_iconst (v := 1) hx hb dX12_push_25 (by decide) ?_
  refine lv_iadd hx hb dX12_push_26 ?_
  refine lv_topv (y := 16) (by decide) ?_
  refine va_put (D := D) (ci := 12) (v := .int 16) (ty := .int) (C := RX12) (T := TX12) (N := 81) hx hb hts inT_X12 tyX12 tyX12_ok nmX12 hown hK.1 hP hD hS 0 rfl rfl 1 (by decide) (hts _ k_1354) (fun _ h9 => h9) rfl (by decide +kernel) rfl rfl (Nat.le_of_ble_eq_true rfl) dX12_push_27 (fun H locs hP hD hS => ?_)
  obtain ⟨i_16, ei_16⟩ : ∃ z : Nat → Int32, z = upd i_12 1 16 := ⟨_, rfl⟩
  have hi_16_1 : i_16 1 = 16 := by rw [ei_16]; rfl
  have hP : va_P D vwCl [(h, .inr (12, mG q i_16)), (q 0, .inl (cB, 220, .inl f_15))] H := by rw [ei_16, ← mG_1]; exact hP
  have hD : va_D A [(h, .inr (12, mG q i_16)), (q 0, .inl (cB, 220, .inl f_15))] := by rw [ei_16, ← mG_1]; exact hD
  refine lv_iinc (v := (-8)) (lv' := [(2, .int (-8)), (0, .ref h), (1, .int n1)]) hx hb dX12_push_30 hl (k := 0) rfl (by decide) (by decide) rfl (fun ls hl => ?_)
  refine lv_goto (tgt := 3) hx hb dX12_push_33 (by decide) ?_
  refine lv_iload_n hx hb dX12_push_3 rfl (lv_at hl 0 rfl) ?_
  refine lv_if_lt (tgt := 36) hx hb dX12_push_4 (by decide) (fun _ => ?_) (fun c => absurd c (by decide))
  exact W.vret hx hb hr (fun t ht hW => ⟨⟨(i_16, f_15), rfl, hi_16_1, ⟨by rw [ht]; exact hP, hD⟩⟩, hS.F ht⟩) hS.2.2 dX12_push_36 hlocks

set_option maxHeartbeats 4000000 in
set_option maxRecDepth 100000 in
theorem c_X12_push_16 (l : Launch) (D : va_G) (cI cB cZ cJ : ClassId) (tx : List (ClassId × FieldType)) (h : Nat) (q : Nat → Nat) (i : Nat → Int32) (f : Nat → Int32) (n1 : Int32) (h1 : i 1 = 16) : WrV l D cI cB cZ cJ tx yX12_push cX12_push 3 none 0 0 0 [.ref h, .int n1] [(h, .inr (12, mG q i)), (q 0, .inl (cB, 220, .inl f))] (fun (u : (Nat → Int32) × (Nat → Int32)) => u.1 1 = 20) (fun u => [(h, .inr (12, mG q u.1)), (q 0, .inl (cB, 220, .inl u.2))]) := by
  refine wrv_of2 (by decide) (Nat.le_of_ble_eq_true rfl) ?_
  intro p e s m below meth c A ls H locs hC hK hP hD hA hS hl
  obtain ⟨hx, hb, hr, hml, hown, hts, hlocks, hin⟩ := hC
  have hown : s.vm.findClass RX12 = some m.cls := hown
  have hl : lv_has ls 3 [(0, .ref h), (1, .int n1)] := hl
  refine lv_bipush (v := 24) hx hb dX12_push_0 (by decide) ?_
  refine lv_istore_n (lv' := [(2, .int 24), (0, .ref h), (1, .int n1)]) hx hb dX12_push_2 rfl hl (by decide) rfl (fun ls hl => ?_)
  refine lv_iload_n hx hb dX12_push_3 rfl (lv_at hl 0 rfl) ?_
  refine lv_if_lt (tgt := 36) hx hb dX12_push_4 (by decide) (fun c => absurd c (by decide)) (fun _ => ?_)
  refine lv_aload_n hx hb dX12_push_7 rfl (lv_at hl 1 rfl) ?_
  refine va_get (D := D) (ci := 12) (v := .ref (q 0)) (C := RX12) (T := TX12) (N := 81) hx hb hts inT_X12 hown hK.1 hP 0 rfl rfl 0 (by decide) (hts _ k_1353) (fun _ h9 => h9) rfl dX12_push_8 ?_
  refine lv_aload_n hx hb dX12_push_11 rfl (lv_at hl 1 rfl) ?_
  refine va_get (D := D) (ci := 12) (v := .int (i 1)) (C := RX12) (T := TX12) (N := 81) hx hb hts inT_X12 hown hK.1 hP 0 rfl rfl 1 (by decide) (hts _ k_1354) (fun _ h9 => h9) rfl dX12_push_12 ?_
  refine lv_topv (y := 16) h1 ?_
  refine lv_iload_n hx hb dX12_push_15 rfl (lv_at hl 2 rfl) ?_
  refine lv_iload_n hx hb dX12_push_16 rfl (lv_at hl 0 rfl) ?_
  refine lv_ishr hx hb dX12_push_17 ?_
  refine lv_topi (fun x_1 _ => ?_)
  refine lv_i2b hx hb dX12_push_18 rfl ?_
  refine lv_topi (fun x_2 _ => ?_)
  refine st_b hx hb hK hP hD hS 1 rfl (by unfold vp_in; decide) dX12_push_19 (fun f_3 H locs hP hD hS => ?_)
  have hP : va_P D vwCl [(h, .inr (12, mG q i)), (q 0, .inl (cB, 220, .inl f_3))] H := hP
  have hD : va_D A [(h, .inr (12, mG q i)), (q 0, .inl (cB, 220, .inl f_3))] := hD
  refine lv_aload_n hx hb dX12_push_20 rfl (lv_at hl 1 rfl) ?_
  refine lv_dup hx hb dX12_push_21 rfl ?_
  refine va_get (D := D) (ci := 12) (v := .int (i 1)) (C := RX12) (T := TX12) (N := 81) hx hb hts inT_X12 hown hK.1 hP 0 rfl rfl 1 (by decide) (hts _ k_1354) (fun _ h9 => h9) rfl dX12_push_22 ?_
  refine lv_topv (y := 16) h1 ?_
  refine lv_iconst (v := 1) hx hb dX12_push_25 (by decide) ?_
  refine lv_iadd hx hb dX12_push_26 ?_
  refine lv_topv (y := 17) (by decide) ?_
  refine va_put (D := D) (ci := 12) (v := .int 17) (ty := .int) (C := RX12) (T := TX12) (N := 81) hx hb hts inT_X12 tyX12 tyX12_ok nmX12 hown hK.1 hP hD hS 0 rfl rfl 1 (by decide) (hts _ k_1354) (fun _ h9 => h9) rfl (by decide +kernel) rfl rfl (Nat.le_of_ble_eq_true rfl) dX12_push_27 (fun H locs hP hD hS => ?_)
  obtain ⟨i_4, ei_4⟩ : ∃ z : Nat → Int32, z = upd i 1 17 := ⟨_, rfl⟩
  have hi_4_1 : i_4 1 = 17 := by rw [ei_4]; rfl
  have hP : va_P D vwCl [(h, .inr (12, mG q i_4)), (q 0, .inl (cB, 220, .inl f_3))] H := by rw [ei_4, ← mG_1]; exact hP
  have hD : va_D A [(h, .inr (12, mG q i_4)), (q 0, .inl (cB, 220, .inl f_3))] := by rw [ei_4, ← mG_1]; exact hD
  refine lv_iinc (v := 16) (lv' := [(2, .int 16), (0, .ref h), (1, .int n1)]) hx hb dX12_push_30 hl (k := 0) rfl (by decide) (by decide) rfl (fun ls hl => ?_)
  refine lv_goto (tgt := 3) hx hb dX12_push_33 (by decide) ?_
  refine lv_iload_n hx hb dX12_push_3 rfl (lv_at hl 0 rfl) ?_
  refine lv_if_lt (tgt := 36) hx hb dX12_push_4 (by decide) (fun c => absurd c (by decide)) (fun _ => ?_)
  refine lv_aload_n hx hb dX12_push_7 rfl (lv_at hl 1 rfl) ?_
  refine va_get (D := D) (ci := 12) (v := .ref (q 0)) (C := RX12) (T := TX12) (N := 81) hx hb hts inT_X12 hown hK.1 hP 0 rfl rfl 0 (by decide) (hts _ k_1353) (fun _ h9 => h9) rfl dX12_push_8 ?_
  refine lv_aload_n hx hb dX12_push_11 rfl (lv_at hl 1 rfl) ?_
  refine va_get (D := D) (ci := 12) (v := .int (i_4 1)) (C := RX12) (T := TX12) (N := 81) hx hb hts inT_X12 hown hK.1 hP 0 rfl rfl 1 (by decide) (hts _ k_1354) (fun _ h9 => h9) rfl dX12_push_12 ?_
  refine lv_topv (y := 17) hi_4_1 ?_
  refine lv_iload_n hx hb dX12_push_15 rfl (lv_at hl 2 rfl) ?_
  refine lv_iload_n hx hb dX12_push_16 rfl (lv_at hl 0 rfl) ?_
  refine lv_ishr hx hb dX12_push_17 ?_
  refine lv_topi (fun x_5 _ => ?_)
  refine lv_i2b hx hb dX12_push_18 rfl ?_
  refine lv_topi (fun x_6 _ => ?_)
  refine st_b hx hb hK hP hD hS 1 rfl (by unfold vp_in; decide) dX12_push_19 (fun f_7 H locs hP hD hS => ?_)
  have hP : va_P D vwCl [(h, .inr (12, mG q i_4)), (q 0, .inl (cB, 220, .inl f_7))] H := hP
  have hD : va_D A [(h, .inr (12, mG q i_4)), (q 0, .inl (cB, 220, .inl f_7))] := hD
  refine lv_aload_n hx hb dX12_push_20 rfl (lv_at hl 1 rfl) ?_
  refine lv_dup hx hb dX12_push_21 rfl ?_
  refine va_get (D := D) (ci := 12) (v := .int (i_4 1)) (C := RX12) (T := TX12) (N := 81) hx hb hts inT_X12 hown hK.1 hP 0 rfl rfl 1 (by decide) (hts _ k_1354) (fun _ h9 => h9) rfl dX12_push_22 ?_
  refine lv_topv (y := 17) hi_4_1 ?_
  refine lv_iconst (v := 1) hx hb dX12_push_25 (by decide) ?_
  refine lv_iadd hx hb dX12_push_26 ?_
  refine lv_topv (y := 18) (by decide) ?_
  refine va_put (D := D) (ci := 12) (v := .int 18) (ty := .int) (C := RX12) (T := TX12) (N := 81) hx hb hts inT_X12 tyX12 tyX12_ok nmX12 hown hK.1 hP hD hS 0 rfl rfl 1 (by decide) (hts _ k_1354) (fun _ h9 => h9) rfl (by decide +kernel) rfl rfl (Nat.le_of_ble_eq_true rfl) dX12_push_27 (fun H locs hP hD hS => ?_)
  obtain ⟨i_8, ei_8⟩ : ∃ z : Nat → Int32, z = upd i_4 1 18 := ⟨_, rfl⟩
  have hi_8_1 : i_8 1 = 18 := by rw [ei_8]; rfl
  have hP : va_P D vwCl [(h, .inr (12, mG q i_8)), (q 0, .inl (cB, 220, .inl f_7))] H := by rw [ei_8, ← mG_1]; exact hP
  have hD : va_D A [(h, .inr (12, mG q i_8)), (q 0, .inl (cB, 220, .inl f_7))] := by rw [ei_8, ← mG_1]; exact hD
  refine lv_iinc (v := 8) (lv' := [(2, .int 8), (0, .ref h), (1, .int n1)]) hx hb dX12_push_30 hl (k := 0) rfl (by decide) (by decide) rfl (fun ls hl => ?_)
  refine lv_goto (tgt := 3) hx hb dX12_push_33 (by decide) ?_
  refine lv_iload_n hx hb dX12_push_3 rfl (lv_at hl 0 rfl) ?_
  refine lv_if_lt (tgt := 36) hx hb dX12_push_4 (by decide) (fun c => absurd c (by decide)) (fun _ => ?_)
  refine lv_aload_n hx hb dX12_push_7 rfl (lv_at hl 1 rfl) ?_
  refine va_get (D := D) (ci := 12) (v := .ref (q 0)) (C := RX12) (T := TX12) (N := 81) hx hb hts inT_X12 hown hK.1 hP 0 rfl rfl 0 (by decide) (hts _ k_1353) (fun _ h9 => h9) rfl dX12_push_8 ?_
  refine lv_aload_n hx hb dX12_push_11 rfl (lv_at hl 1 rfl) ?_
  refine va_get (D := D) (ci := 12) (v := .int (i_8 1)) (C := RX12) (T := TX12) (N := 81) hx hb hts inT_X12 hown hK.1 hP 0 rfl rfl 1 (by decide) (hts _ k_1354) (fun _ h9 => h9) rfl dX12_push_12 ?_
  refine lv_topv (y := 18) hi_8_1 ?_
  refine lv_iload_n hx hb dX12_push_15 rfl (lv_at hl 2 rfl) ?_
  refine lv_iload_n hx hb dX12_push_16 rfl (lv_at hl 0 rfl) ?_
  refine lv_ishr hx hb dX12_push_17 ?_
  refine lv_topi (fun x_9 _ => ?_)
  refine lv_i2b hx hb dX12_push_18 rfl ?_
  refine lv_topi (fun x_10 _ => ?_)
  refine st_b hx hb hK hP hD hS 1 rfl (by unfold vp_in; decide) dX12_push_19 (fun f_11 H locs hP hD hS => ?_)
  have hP : va_P D vwCl [(h, .inr (12, mG q i_8)), (q 0, .inl (cB, 220, .inl f_11))] H := hP
  have hD : va_D A [(h, .inr (12, mG q i_8)), (q 0, .inl (cB, 220, .inl f_11))] := hD
  refine lv_aload_n hx hb dX12_push_20 rfl (lv_at hl 1 rfl) ?_
  refine lv_dup hx hb dX12_push_21 rfl ?_
  refine va_get (D := D) (ci := 12) (v := .int (i_8 1)) (C := RX12) (T := TX12) (N := 81) hx hb hts inT_X12 hown hK.1 hP 0 rfl rfl 1 (by decide) (hts _ k_1354) (fun _ h9 => h9) rfl dX12_push_22 ?_
  refine lv_topv (y := 18) hi_8_1 ?_
  refine lv_iconst (v := 1) hx hb dX12_push_25 (by decide) ?_
  refine lv_iadd hx hb dX12_push_26 ?_
  refine lv_topv (y := 19) (by decide) ?_
  refine va_put (D := D) (ci := 12) (v := .int 19) (ty := .int) (C := RX12) (T := TX12) (N := 81) hx hb hts inT_X12 tyX12 tyX12_ok nmX12 hown hK.1 hP hD hS 0 rfl rfl 1 (by decide) (hts _ k_1354) (fun _ h9 => h9) rfl (by decide +kernel) rfl rfl (Nat.le_of_ble_eq_true rfl) dX12_push_27 (fun H locs hP hD hS => ?_)
  obtain ⟨i_12, ei_12⟩ : ∃ z : Nat → Int32, z = upd i_8 1 19 := ⟨_, rfl⟩
  have hi_12_1 : i_12 1 = 19 := by rw [ei_12]; rfl
  have hP : va_P D vwCl [(h, .inr (12, mG q i_12)), (q 0, .inl (cB, 220, .inl f_11))] H := by rw [ei_12, ← mG_1]; exact hP
  have hD : va_D A [(h, .inr (12, mG q i_12)), (q 0, .inl (cB, 220, .inl f_11))] := by rw [ei_12, ← mG_1]; exact hD
  refine lv_iinc (v := 0) (lv' := [(2, .int 0), (0, .ref h), (1, .int n1)]) hx hb dX12_push_30 hl (k := 0) rfl (by decide) (by decide) rfl (fun ls hl => ?_)
  refine lv_goto (tgt := 3) hx hb dX12_push_33 (by decide) ?_
  refine lv_iload_n hx hb dX12_push_3 rfl (lv_at hl 0 rfl) ?_
  refine lv_if_lt (tgt := 36) hx hb dX12_push_4 (by decide) (fun c => absurd c (by decide)) (fun _ => ?_)
  refine lv_aload_n hx hb dX12_push_7 rfl (lv_at hl 1 rfl) ?_
  refine va_get (D := D) (ci := 12) (v := .ref (q 0)) (C := RX12) (T := TX12) (N := 81) hx hb hts inT_X12 hown hK.1 hP 0 rfl rfl 0 (by decide) (hts _ k_1353) (fun _ h9 => h9) rfl dX12_push_8 ?_
  refine lv_aload_n hx hb dX12_push_11 rfl (lv_at hl 1 rfl) ?_
  refine va_get (D := D) (ci := 12) (v := .int (i_12 1)) (C := RX12) (T := TX12) (N := 81) hx hb hts inT_X12 hown hK.1 hP 0 rfl rfl 1 (by decide) (hts _ k_1354) (fun _ h9 => h9) rfl dX12_push_12 ?_
  refine lv_topv (y := 19) hi_12_1 ?_
  refine lv_iload_n hx hb dX12_push_15 rfl (lv_at hl 2 rfl) ?_
  refine lv_iload_n hx hb dX12_push_16 rfl (lv_at hl 0 rfl) ?_
  refine lv_ishr hx hb dX12_push_17 ?_
  refine lv_topi (fun x_13 _ => ?_)
  refine lv_i2b hx hb dX12_push_18 rfl ?_
  refine lv_topi (fun x_14 _ => ?_)
  refine st_b hx hb hK hP hD hS 1 rfl (by unfold vp_in; decide) dX12_push_19 (fun f_15 H locs hP hD hS => ?_)
  have hP : va_P D vwCl [(h, .inr (12, mG q i_12)), (q 0, .inl (cB, 220, .inl f_15))] H := hP
  have hD : va_D A [(h, .inr (12, mG q i_12)), (q 0, .inl (cB, 220, .inl f_15))] := hD
  refine lv_aload_n hx hb dX12_push_20 rfl (lv_at hl 1 rfl) ?_
  refine lv_dup hx hb dX12_push_21 rfl ?_
  refine va_get (D := D) (ci := 12) (v := .int (i_12 1)) (C := RX12) (T := TX12) (N := 81) hx hb hts inT_X12 hown hK.1 hP 0 rfl rfl 1 (by decide) (hts _ k_1354) (fun _ h9 => h9) rfl dX12_push_22 ?_
  refine lv_topv (y := 19) hi_12_1 ?_
  refine lv_iconst (v := 1) hx hb dX12_push_25 (by decide) ?_
  refine lv_iadd hx hb dX12_push_26 ?_
  refine lv_topv (y := 20) (by decide) ?_
  refine va_put (D := D) (ci := 12) (v := .int 20) (ty := .int) (C := RX12) (T := TX12) (N := 81) hx hb hts inT_X12 tyX12 tyX12_ok nmX12 hown hK.1 hP hD hS 0 rfl rfl 1 (by decide) (hts _ k_1354) (fun _ h9 => h9) rfl (by decide +kernel) rfl rfl (Nat.le_of_ble_eq_true rfl) dX12_push_27 (fun H locs hP hD hS => ?_)
  obtain ⟨i_16, ei_16⟩ : ∃ z : Nat → Int32, z = upd i_12 1 20 := ⟨_, rfl⟩
  have hi_16_1 : i_16 1 = 20 := by rw [ei_16]; rfl
  have hP : va_P D vwCl [(h, .inr (12, mG q i_16)), (q 0, .inl (cB, 220, .inl f_15))] H := by rw [ei_16, ← mG_1]; exact hP
  have hD : va_D A [(h, .inr (12, mG q i_16)), (q 0, .inl (cB, 220, .inl f_15))] := by rw [ei_16, ← mG_1]; exact hD
  refine lv_iinc (v := (-8)) (lv' := [(2, .int (-8)), (0, .ref h), (1, .int n1)]) hx hb dX12_push_30 hl (k := 0) rfl (by decide) (by decide) rfl (fun ls hl => ?_)
  refine lv_goto (tgt := 3) hx hb dX12_push_33 (by decide) ?_
  refine lv_iload_n hx hb dX12_push_3 rfl (lv_at hl 0 rfl) ?_
  refine lv_if_lt (tgt := 36) hx hb dX12_push_4 (by decide) (fun _ => ?_) (fun c => absurd c (by decide))
  exact W.vret hx hb hr (fun t ht hW => ⟨⟨(i_16, f_15), rfl, hi_16_1, ⟨by rw [ht]; exact hP, hD⟩⟩, hS.F ht⟩) hS.2.2 dX12_push_36 hlocks

theorem lf_X12_feed_11 (h : Nat) (q : Nat → Nat) (i : Nat → Int32) (n1 : Int32) (n2 : Int32) (n3 : Int32) (n4 : Int32) (n5 : Int32) (h1 : i 1 = 0) : (20 : Int32) = 20 := by
  first | rfl | (simp only [bi]; rw [if_pos (by grind)]; done) | (simp only [bi]; rw [if_neg (by grind)]; done) | grind
set_option maxHeartbeats 4000000 in
set_option maxRecDepth 100000 in
theorem c_X12_feed (l : Launch) (D : va_G) (cI cB cZ cJ : ClassId) (tx : List (ClassId × FieldType)) (h : Nat) (q : Nat → Nat) (i : Nat → Int32) (n1 : Int32) (n2 : Int32) (n3 : Int32) (n4 : Int32) (n5 : Int32) (h1 : i 1 = 0) : WrI l D cI cB cZ cJ tx yX12_feed cX12_feed 6 (some .int) 1 0 0 [.ref h, .int n1, .int n2, .int n3, .int n4, .int n5] [(h, .inr (12, mG q i)), (q 0, .inl (cB, 220, .inl (fun _ => 0)))] (fun (r : Int32) (_ : Unit) => r = 20) (fun _ => []) := by
  refine wri_of2 (by decide) (Nat.le_of_ble_eq_true rfl) ?_
  intro p e s m below meth c A ls H locs hC hK hP hD hA hS hl
  obtain ⟨hx, hb, hr, hml, hown, hts, hlocks, hin⟩ := hC
  have hown : s.vm.findClass RX12 = some m.cls := hown
  have hl : lv_has ls 6 [(0, .ref h), (1, .int n1), (2, .int n2), (3, .int n3), (4, .int n4), (5, .int n5)] := hl
  refine lv_aload_n hx hb dX12_feed_0 rfl (lv_at hl 0 rfl) ?_
  refine va_get (D := D) (ci := 12) (v := .int (i 1)) (C := RX12) (T := TX12) (N := 81) hx hb hts inT_X12 hown hK.1 hP 0 rfl rfl 1 (by decide) (hts _ k_1354) (fun _ h9 => h9) rfl dX12_feed_1 ?_
  refine lv_topv (y := 0) h1 ?_
  refine lv_bipush (v := 20) hx hb dX12_feed_4 (by decide) ?_
  refine lv_iadd hx hb dX12_feed_6 ?_
  refine lv_topv (y := 20) (by decide) ?_
  refine lv_sipush (v := 220) hx hb dX12_feed_7 (by decide) ?_
  refine lv_icmp_le (tgt := 15) hx hb dX12_feed_10 (by decide) (fun _ => ?_) (fun c => absurd c (by decide))
  refine lv_aload_n hx hb dX12_feed_15 rfl (lv_at hl 0 rfl) ?_
  refine lv_iload_n hx hb dX12_feed_16 rfl (lv_at hl 1 rfl) ?_
  refine eWv (wr := []) (va_runV (As := [.int n1]) (rest := []) ⟨hx, hb, hml, hown, hts⟩ (c_X12_push_0 l D cI cB cZ cJ tx h q i (fun _ => 0) n1 h1 H.size) (zV hts k_1614 v_X12_push ⟨Nat.le_of_ble_eq_true rfl, Nat.le_of_ble_eq_true rfl⟩) (pV (pxS hK hP hD [0, 1] (by decide) rfl) hK hP 0 rfl rfl) rfl rfl hl.1 rfl (lv_room (Nat.le_of_ble_eq_true rfl)) dX12_feed_17 ⟨Nat.le_of_ble_eq_true rfl, Nat.le_of_ble_eq_true rfl⟩) hP hD hS hA [0, 1] [] rfl rfl (by decide) (by decide) (fun u_2 H locs wr_1 hP hD hS => ?_)
  have hz_u_2 : u_2.1 1 = 4 := wr_1
  have hP : va_P D vwCl [(h, .inr (12, mG q u_2.1)), (q 0, .inl (cB, 220, .inl u_2.2))] H := hP
  have hD : va_D A [(h, .inr (12, mG q u_2.1)), (q 0, .inl (cB, 220, .inl u_2.2))] := hD
  refine lv_aload_n hx hb dX12_feed_20 rfl (lv_at hl 0 rfl) ?_
  refine lv_iload_n hx hb dX12_feed_21 rfl (lv_at hl 2 rfl) ?_
  refine eWv (wr := []) (va_runV (As := [.int n2]) (rest := []) ⟨hx, hb, hml, hown, hts⟩ (c_X12_push_4 l D cI cB cZ cJ tx h q u_2.1 u_2.2 n2 hz_u_2 H.size) (zV hts k_1614 v_X12_push ⟨Nat.le_of_ble_eq_true rfl, Nat.le_of_ble_eq_true rfl⟩) (pV (pxS hK hP hD [0, 1] (by decide) rfl) hK hP 0 rfl rfl) rfl rfl hl.1 rfl (lv_room (Nat.le_of_ble_eq_true rfl)) dX12_feed_22 ⟨Nat.le_of_ble_eq_true rfl, Nat.le_of_ble_eq_true rfl⟩) hP hD hS hA [0, 1] [] rfl rfl (by decide) (by decide) (fun u_4 H locs wr_3 hP hD hS => ?_)
  have hz_u_4 : u_4.1 1 = 8 := wr_3
  have hP : va_P D vwCl [(h, .inr (12, mG q u_4.1)), (q 0, .inl (cB, 220, .inl u_4.2))] H := hP
  have hD : va_D A [(h, .inr (12, mG q u_4.1)), (q 0, .inl (cB, 220, .inl u_4.2))] := hD
  refine lv_aload_n hx hb dX12_feed_25 rfl (lv_at hl 0 rfl) ?_
  refine lv_iload_n hx hb dX12_feed_26 rfl (lv_at hl 3 rfl) ?_
  refine eWv (wr := []) (va_runV (As := [.int n3]) (rest := []) ⟨hx, hb, hml, hown, hts⟩ (c_X12_push_8 l D cI cB cZ cJ tx h q u_4.1 u_4.2 n3 hz_u_4 H.size) (zV hts k_1614 v_X12_push ⟨Nat.le_of_ble_eq_true rfl, Nat.le_of_ble_eq_true rfl⟩) (pV (pxS hK hP hD [0, 1] (by decide) rfl) hK hP 0 rfl rfl) rfl rfl hl.1 rfl (lv_room (Nat.le_of_ble_eq_true rfl)) dX12_feed_27 ⟨Nat.le_of_ble_eq_true rfl, Nat.le_of_ble_eq_true rfl⟩) hP hD hS hA [0, 1] [] rfl rfl (by decide) (by decide) (fun u_6 H locs wr_5 hP hD hS => ?_)
  have hz_u_6 : u_6.1 1 = 12 := wr_5
  have hP : va_P D vwCl [(h, .inr (12, mG q u_6.1)), (q 0, .inl (cB, 220, .inl u_6.2))] H := hP
  have hD : va_D A [(h, .inr (12, mG q u_6.1)), (q 0, .inl (cB, 220, .inl u_6.2))] := hD
  refine lv_aload_n hx hb dX12_feed_30 rfl (lv_at hl 0 rfl) ?_
  refine lv_iload hx hb dX12_feed_31 (lv_at hl 4 rfl) ?_
  refine eWv (wr := []) (va_runV (As := [.int n4]) (rest := []) ⟨hx, hb, hml, hown, hts⟩ (c_X12_push_12 l D cI cB cZ cJ tx h q u_6.1 u_6.2 n4 hz_u_6 H.size) (zV hts k_1614 v_X12_push ⟨Nat.le_of_ble_eq_true rfl, Nat.le_of_ble_eq_true rfl⟩) (pV (pxS hK hP hD [0, 1] (by decide) rfl) hK hP 0 rfl rfl) rfl rfl hl.1 rfl (lv_room (Nat.le_of_ble_eq_true rfl)) dX12_feed_33 ⟨Nat.le_of_ble_eq_true rfl, Nat.le_of_ble_eq_true rfl⟩) hP hD hS hA [0, 1] [] rfl rfl (by decide) (by decide) (fun u_8 H locs wr_7 hP hD hS => ?_)
  have hz_u_8 : u_8.1 1 = 16 := wr_7
  have hP : va_P D vwCl [(h, .inr (12, mG q u_8.1)), (q 0, .inl (cB, 220, .inl u_8.2))] H := hP
  have hD : va_D A [(h, .inr (12, mG q u_8.1)), (q 0, .inl (cB, 220, .inl u_8.2))] := hD
  refine lv_aload_n hx hb dX12_feed_36 rfl (lv_at hl 0 rfl) ?_
  refine lv_iload hx hb dX12_feed_37 (lv_at hl 5 rfl) ?_
  refine eWv (wr := []) (va_runV (As := [.int n5]) (rest := []) ⟨hx, hb, hml, hown, hts⟩ (c_X12_push_16 l D cI cB cZ cJ tx h q u_8.1 u_8.2 n5 hz_u_8 H.size) (zV hts k_1614 v_X12_push ⟨Nat.le_of_ble_eq_true rfl, Nat.le_of_ble_eq_true rfl⟩) (pV (pxS hK hP hD [0, 1] (by decide) rfl) hK hP 0 rfl rfl) rfl rfl hl.1 rfl (lv_room (Nat.le_of_ble_eq_true rfl)) dX12_feed_39 ⟨Nat.le_of_ble_eq_true rfl, Nat.le_of_ble_eq_true rfl⟩) hP hD hS hA [0, 1] [] rfl rfl (by decide) (by decide) (fun u_10 H locs wr_9 hP hD hS => ?_)
  have hz_u_10 : u_10.1 1 = 20 := wr_9
  have hP : va_P D vwCl [(h, .inr (12, mG q u_10.1)), (q 0, .inl (cB, 220, .inl u_10.2))] H := hP
  have hD : va_D A [(h, .inr (12, mG q u_10.1)), (q 0, .inl (cB, 220, .inl u_10.2))] := hD
  refine lv_aload_n hx hb dX12_feed_42 rfl (lv_at hl 0 rfl) ?_
  refine va_get (D := D) (ci := 12) (v := .int (u_10.1 1)) (C := RX12) (T := TX12) (N := 81) hx hb hts inT_X12 hown hK.1 hP 0 rfl rfl 1 (by decide) (hts _ k_1354) (fun _ h9 => h9) rfl dX12_feed_43 ?_
  refine lv_topv (y := 20) hz_u_10 ?_
  exact W.iret (v := 20) hx hb hr (fun t ht hW => ⟨⟨(20 : Int32), (), rfl, (lf_X12_feed_11 h q i n1 n2 n3 n4 n5 h1), bx0⟩, hS.F ht⟩) hS.2.2 dX12_feed_46 hlocks

theorem lf_X12_readsText_3 (h : Nat) (q : Nat → Nat) (i : Nat → Int32) (n0 : Int32) (n1 : Int32) (h1 : i 1 = 0) (c_2 : ¬ ((1 : Int32) ≤ n1 ∧ n1 ≤ 200)) : ((-1) : Int32) = -1 := by
  first | rfl | (simp only [bi]; rw [if_pos (by grind)]; done) | (simp only [bi]; rw [if_neg (by grind)]; done) | grind
theorem lf_X12_readsText_5 (h : Nat) (q : Nat → Nat) (i : Nat → Int32) (n0 : Int32) (n1 : Int32) (h1 : i 1 = 0) (c_2 : (1 : Int32) ≤ n1 ∧ n1 ≤ 200) (c_4 : n1 ≤ 0) : False := by
  first | rfl | (simp only [bi]; rw [if_pos (by grind)]; done) | (simp only [bi]; rw [if_neg (by grind)]; done) | grind
theorem lf_X12_readsText_6 (h : Nat) (q : Nat → Nat) (i : Nat → Int32) (n0 : Int32) (n1 : Int32) (h1 : i 1 = 0) (c_2 : (1 : Int32) ≤ n1 ∧ n1 ≤ 200) (c_4 : ¬ n1 ≤ 0) : ((-1) : Int32) = -1 := by
  first | rfl | (simp only [bi]; rw [if_pos (by grind)]; done) | (simp only [bi]; rw [if_neg (by grind)]; done) | grind
set_option maxHeartbeats 4000000 in
set_option maxRecDepth 100000 in
theorem c_X12_readsText (l : Launch) (D : va_G) (cI cB cZ cJ : ClassId) (tx : List (ClassId × FieldType)) (h : Nat) (q : Nat → Nat) (i : Nat → Int32) (n0 : Int32) (n1 : Int32) (h1 : i 1 = 0) : WrI l D cI cB cZ cJ tx yX12_readsText cX12_readsText 5 (some .int) 1 0 0 [.ref h, .int n0, .int n1] [(h, .inr (12, mG q i))] (fun (r : Int32) (_ : Unit) => r = -1) (fun _ => []) := by
  refine wri_of2 (by decide) (Nat.le_of_ble_eq_true rfl) ?_
  intro p e s m below meth c A ls H locs hC hK hP hD hA hS hl
  obtain ⟨hx, hb, hr, hml, hown, hts, hlocks, hin⟩ := hC
  have hown : s.vm.findClass RX12 = some m.cls := hown
  have hl : lv_has ls 5 [(0, .ref h), (1, .int n0), (2, .int n1)] := hl
  refine lv_iload_n hx hb dX12_readsText_0 rfl (lv_at hl 2 rfl) ?_
  refine lv_i2l (v := n1.toInt64) hx hb dX12_readsText_1 rfl ?_
  refine lv_lconst (v := 1) hx hb dX12_readsText_2 (by decide) ?_
  refine lv_ldc2 (v := 200) hx hb hown (hts _ k_1626) dX12_readsText_3 ?_
  refine eRi (va_runS (As := [.long n1.toInt64, .long 1, .long 200]) (rest := []) ⟨hx, hb, hml, hown, hts⟩ (c_X12_isIn l D cI cB cZ cJ tx n1.toInt64 1 200 H.size) (zS hts k_1602 v_X12_isIn ⟨Nat.le_of_ble_eq_true rfl, Nat.le_of_ble_eq_true rfl⟩) (px0 hK) rfl rfl hl.1 rfl (lv_room (Nat.le_of_ble_eq_true rfl)) dX12_readsText_6 ⟨Nat.le_of_ble_eq_true rfl, Nat.le_of_ble_eq_true rfl⟩) hP hS hA (fun r_1 H locs wr_1 hP hS => ?_)
  have wr_1 : r_1 = bi ((1 : Int32) ≤ n1 ∧ n1 ≤ 200) := isIn32 (lo := 1) (hi := 200) (by decide) (by decide) wr_1
  subst wr_1
  refine lv_bi_eq (tgt := 20) hx hb dX12_readsText_9 (by decide) (fun c_2 => ?_) (fun c_2 => ?_)
  · refine lv_iconst (v := (-1)) hx hb dX12_readsText_20 (by decide) ?_
    exact W.iret (v := (-1)) hx hb hr (fun t ht hW => ⟨⟨((-1) : Int32), (), rfl, (lf_X12_readsText_3 h q i n0 n1 h1 c_2), bx0⟩, hS.F ht⟩) hS.2.2 dX12_readsText_21 hlocks
  · refine lv_iload_n hx hb dX12_readsText_12 rfl (lv_at hl 2 rfl) ?_
    refine lv_aload_n hx hb dX12_readsText_13 rfl (lv_at hl 0 rfl) ?_
    refine va_get (D := D) (ci := 12) (v := .int (i 1)) (C := RX12) (T := TX12) (N := 81) hx hb hts inT_X12 hown hK.1 hP 0 rfl rfl 1 (by decide) (hts _ k_1354) (fun _ h9 => h9) rfl dX12_readsText_14 ?_
    refine lv_topv (y := 0) h1 ?_
    refine lv_icmp_le (tgt := 22) hx hb dX12_readsText_17 (by decide) (fun c_4 => absurd (lf_X12_readsText_5 h q i n0 n1 h1 c_2 c_4) id) (fun c_4 => ?_)
    refine lv_iconst (v := (-1)) hx hb dX12_readsText_20 (by decide) ?_
    exact W.iret (v := (-1)) hx hb hr (fun t ht hW => ⟨⟨((-1) : Int32), (), rfl, (lf_X12_readsText_6 h q i n0 n1 h1 c_2 c_4), bx0⟩, hS.F ht⟩) hS.2.2 dX12_readsText_21 hlocks

theorem lf_X12_rule_3 (h : Nat) (q : Nat → Nat) (i : Nat → Int32) (n1 : Int32) (h1 : i 1 = 0) : ((-1) : Int32) = -1 := by
  first | rfl | (simp only [bi]; rw [if_pos (by grind)]; done) | (simp only [bi]; rw [if_neg (by grind)]; done) | grind
set_option maxHeartbeats 4000000 in
set_option maxRecDepth 100000 in
theorem c_X12_rule (l : Launch) (D : va_G) (cI cB cZ cJ : ClassId) (tx : List (ClassId × FieldType)) (h : Nat) (q : Nat → Nat) (i : Nat → Int32) (n1 : Int32) (h1 : i 1 = 0) : WrI l D cI cB cZ cJ tx yX12_rule cX12_rule 2 (some .int) 2 0 0 [.ref h, .int n1] [(h, .inr (12, mG q i))] (fun (r : Int32) (_ : Unit) => r = -1) (fun _ => []) := by
  refine wri_of2 (by decide) (Nat.le_of_ble_eq_true rfl) ?_
  intro p e s m below meth c A ls H locs hC hK hP hD hA hS hl
  obtain ⟨hx, hb, hr, hml, hown, hts, hlocks, hin⟩ := hC
  have hown : s.vm.findClass RX12 = some m.cls := hown
  have hl : lv_has ls 2 [(0, .ref h), (1, .int n1)] := hl
  refine lv_aload_n hx hb dX12_rule_0 rfl (lv_at hl 0 rfl) ?_
  refine lv_iconst (v := 0) hx hb dX12_rule_1 (by decide) ?_
  refine lv_iload_n hx hb dX12_rule_2 rfl (lv_at hl 1 rfl) ?_
  refine eWi (wr := []) (va_runV (As := [.int 0, .int n1]) (rest := []) ⟨hx, hb, hml, hown, hts⟩ (c_X12_readsText l D cI cB cZ cJ tx h q i 0 n1 h1 H.size) (zV hts k_1622 v_X12_readsText ⟨Nat.le_of_ble_eq_true rfl, Nat.le_of_ble_eq_true rfl⟩) (pV (pxS hK hP hD [0] (by decide) rfl) hK hP 0 rfl rfl) rfl rfl hl.1 rfl (lv_room (Nat.le_of_ble_eq_true rfl)) dX12_rule_3 ⟨Nat.le_of_ble_eq_true rfl, Nat.le_of_ble_eq_true rfl⟩) hP hD hS hA [0] [] rfl rfl (by decide) (by decide) (fun r_1 u_2 H locs wr_1 hP hD hS => ?_)
  have hP : va_P D vwCl [] H := hP
  have hD : va_D A [] := hD
  subst wr_1
  exact W.iret (v := (-1)) hx hb hr (fun t ht hW => ⟨⟨((-1) : Int32), (), rfl, (lf_X12_rule_3 h q i n1 h1), bx0⟩, hS.F ht⟩) hS.2.2 dX12_rule_6 hlocks

theorem lf_X12_sand_3 (h : Nat) (q : Nat → Nat) (i : Nat → Int32) (n1 : Int32) (h1 : i 1 = 0) : ((-1) : Int32) = -1 := by
  first | rfl | (simp only [bi]; rw [if_pos (by grind)]; done) | (simp only [bi]; rw [if_neg (by grind)]; done) | grind
set_option maxHeartbeats 4000000 in
set_option maxRecDepth 100000 in
theorem c_X12_sand (l : Launch) (D : va_G) (cI cB cZ cJ : ClassId) (tx : List (ClassId × FieldType)) (h : Nat) (q : Nat → Nat) (i : Nat → Int32) (n1 : Int32) (h1 : i 1 = 0) : WrI l D cI cB cZ cJ tx yX12_sand cX12_sand 2 (some .int) 2 0 0 [.ref h, .int n1] [(h, .inr (12, mG q i))] (fun (r : Int32) (_ : Unit) => r = -1) (fun _ => []) := by
  refine wri_of2 (by decide) (Nat.le_of_ble_eq_true rfl) ?_
  intro p e s m below meth c A ls H locs hC hK hP hD hA hS hl
  obtain ⟨hx, hb, hr, hml, hown, hts, hlocks, hin⟩ := hC
  have hown : s.vm.findClass RX12 = some m.cls := hown
  have hl : lv_has ls 2 [(0, .ref h), (1, .int n1)] := hl
  refine lv_aload_n hx hb dX12_sand_0 rfl (lv_at hl 0 rfl) ?_
  refine lv_iconst (v := 1) hx hb dX12_sand_1 (by decide) ?_
  refine lv_iload_n hx hb dX12_sand_2 rfl (lv_at hl 1 rfl) ?_
  refine eWi (wr := []) (va_runV (As := [.int 1, .int n1]) (rest := []) ⟨hx, hb, hml, hown, hts⟩ (c_X12_readsText l D cI cB cZ cJ tx h q i 1 n1 h1 H.size) (zV hts k_1622 v_X12_readsText ⟨Nat.le_of_ble_eq_true rfl, Nat.le_of_ble_eq_true rfl⟩) (pV (pxS hK hP hD [0] (by decide) rfl) hK hP 0 rfl rfl) rfl rfl hl.1 rfl (lv_room (Nat.le_of_ble_eq_true rfl)) dX12_sand_3 ⟨Nat.le_of_ble_eq_true rfl, Nat.le_of_ble_eq_true rfl⟩) hP hD hS hA [0] [] rfl rfl (by decide) (by decide) (fun r_1 u_2 H locs wr_1 hP hD hS => ?_)
  have hP : va_P D vwCl [] H := hP
  have hD : va_D A [] := hD
  subst wr_1
  exact W.iret (v := (-1)) hx hb hr (fun t ht hW => ⟨⟨((-1) : Int32), (), rfl, (lf_X12_sand_3 h q i n1 h1), bx0⟩, hS.F ht⟩) hS.2.2 dX12_sand_6 hlocks

theorem lf_X12_stain_3 (h : Nat) (q : Nat → Nat) (i : Nat → Int32) (n1 : Int32) (h1 : i 1 = 0) : ((-1) : Int32) = -1 := by
  first | rfl | (simp only [bi]; rw [if_pos (by grind)]; done) | (simp only [bi]; rw [if_neg (by grind)]; done) | grind
set_option maxHeartbeats 4000000 in
set_option maxRecDepth 100000 in
theorem c_X12_stain (l : Launch) (D : va_G) (cI cB cZ cJ : ClassId) (tx : List (ClassId × FieldType)) (h : Nat) (q : Nat → Nat) (i : Nat → Int32) (n1 : Int32) (h1 : i 1 = 0) : WrI l D cI cB cZ cJ tx yX12_stain cX12_stain 2 (some .int) 2 0 0 [.ref h, .int n1] [(h, .inr (12, mG q i))] (fun (r : Int32) (_ : Unit) => r = -1) (fun _ => []) := by
  refine wri_of2 (by decide) (Nat.le_of_ble_eq_true rfl) ?_
  intro p e s m below meth c A ls H locs hC hK hP hD hA hS hl
  obtain ⟨hx, hb, hr, hml, hown, hts, hlocks, hin⟩ := hC
  have hown : s.vm.findClass RX12 = some m.cls := hown
  have hl : lv_has ls 2 [(0, .ref h), (1, .int n1)] := hl
  refine lv_aload_n hx hb dX12_stain_0 rfl (lv_at hl 0 rfl) ?_
  refine lv_iconst (v := 2) hx hb dX12_stain_1 (by decide) ?_
  refine lv_iload_n hx hb dX12_stain_2 rfl (lv_at hl 1 rfl) ?_
  refine eWi (wr := []) (va_runV (As := [.int 2, .int n1]) (rest := []) ⟨hx, hb, hml, hown, hts⟩ (c_X12_readsText l D cI cB cZ cJ tx h q i 2 n1 h1 H.size) (zV hts k_1622 v_X12_readsText ⟨Nat.le_of_ble_eq_true rfl, Nat.le_of_ble_eq_true rfl⟩) (pV (pxS hK hP hD [0] (by decide) rfl) hK hP 0 rfl rfl) rfl rfl hl.1 rfl (lv_room (Nat.le_of_ble_eq_true rfl)) dX12_stain_3 ⟨Nat.le_of_ble_eq_true rfl, Nat.le_of_ble_eq_true rfl⟩) hP hD hS hA [0] [] rfl rfl (by decide) (by decide) (fun r_1 u_2 H locs wr_1 hP hD hS => ?_)
  have hP : va_P D vwCl [] H := hP
  have hD : va_D A [] := hD
  subst wr_1
  exact W.iret (v := (-1)) hx hb hr (fun t ht hW => ⟨⟨((-1) : Int32), (), rfl, (lf_X12_stain_3 h q i n1 h1), bx0⟩, hS.F ht⟩) hS.2.2 dX12_stain_6 hlocks

theorem lf_X12_mound_3 (h : Nat) (q : Nat → Nat) (i : Nat → Int32) (n1 : Int32) (n2 : Int32) (c_2 : ¬ ((0 : Int32) ≤ n1 ∧ n1 ≤ 23)) : (0 : Int32) = bi ((0 ≤ n1 ∧ n1 ≤ 23) ∧ 0 ≤ n2 ∧ n2 ≤ 1000) := by
  first | rfl | (simp only [bi]; rw [if_pos (by grind)]; done) | (simp only [bi]; rw [if_neg (by grind)]; done) | grind
theorem lf_X12_mound_6 (h : Nat) (q : Nat → Nat) (i : Nat → Int32) (n1 : Int32) (n2 : Int32) (c_2 : (0 : Int32) ≤ n1 ∧ n1 ≤ 23) (c_5 : (0 : Int32) ≤ n2 ∧ n2 ≤ 1000) : vp_in n1 24 := by
  first | (unfold vp_in; decide) | (exact vp_in1 (x := n1) (M := 23) 24 (by decide) rfl (by assumption))
theorem lf_X12_mound_8 (h : Nat) (q : Nat → Nat) (i : Nat → Int32) (n1 : Int32) (n2 : Int32) (c_2 : (0 : Int32) ≤ n1 ∧ n1 ≤ 23) (c_5 : (0 : Int32) ≤ n2 ∧ n2 ≤ 1000) : (1 : Int32) = bi ((0 ≤ n1 ∧ n1 ≤ 23) ∧ 0 ≤ n2 ∧ n2 ≤ 1000) := by
  first | rfl | (simp only [bi]; rw [if_pos (by grind)]; done) | (simp only [bi]; rw [if_neg (by grind)]; done) | grind
theorem lf_X12_mound_9 (h : Nat) (q : Nat → Nat) (i : Nat → Int32) (n1 : Int32) (n2 : Int32) (c_2 : (0 : Int32) ≤ n1 ∧ n1 ≤ 23) (c_5 : ¬ ((0 : Int32) ≤ n2 ∧ n2 ≤ 1000)) : (0 : Int32) = bi ((0 ≤ n1 ∧ n1 ≤ 23) ∧ 0 ≤ n2 ∧ n2 ≤ 1000) := by
  first | rfl | (simp only [bi]; rw [if_pos (by grind)]; done) | (simp only [bi]; rw [if_neg (by grind)]; done) | grind
set_option maxHeartbeats 4000000 in
set_option maxRecDepth 100000 in
theorem c_X12_mound (l : Launch) (D : va_G) (cI cB cZ cJ : ClassId) (tx : List (ClassId × FieldType)) (h : Nat) (q : Nat → Nat) (i : Nat → Int32) (n1 : Int32) (n2 : Int32) : WrI l D cI cB cZ cJ tx yX12_mound cX12_mound 3 (some .boolean) 1 0 0 [.ref h, .int n1, .int n2] [(h, .inr (12, mG q i)), (q 48, .inl (cI, 24, .inl (fun _ => 0)))] (fun (r : Int32) (_ : Unit) => r = bi ((0 ≤ n1 ∧ n1 ≤ 23) ∧ 0 ≤ n2 ∧ n2 ≤ 1000)) (fun _ => []) := by
  refine wri_of2 (by decide) (Nat.le_of_ble_eq_true rfl) ?_
  intro p e s m below meth c A ls H locs hC hK hP hD hA hS hl
  obtain ⟨hx, hb, hr, hml, hown, hts, hlocks, hin⟩ := hC
  have hown : s.vm.findClass RX12 = some m.cls := hown
  have hl : lv_has ls 3 [(0, .ref h), (1, .int n1), (2, .int n2)] := hl
  refine lv_iload_n hx hb dX12_mound_0 rfl (lv_at hl 1 rfl) ?_
  refine lv_i2l (v := n1.toInt64) hx hb dX12_mound_1 rfl ?_
  refine lv_lconst (v := 0) hx hb dX12_mound_2 (by decide) ?_
  refine lv_ldc2 (v := 23) hx hb hown (hts _ k_1773) dX12_mound_3 ?_
  refine eRi (va_runS (As := [.long n1.toInt64, .long 0, .long 23]) (rest := []) ⟨hx, hb, hml, hown, hts⟩ (c_X12_isIn l D cI cB cZ cJ tx n1.toInt64 0 23 H.size) (zS hts k_1602 v_X12_isIn ⟨Nat.le_of_ble_eq_true rfl, Nat.le_of_ble_eq_true rfl⟩) (px0 hK) rfl rfl hl.1 rfl (lv_room (Nat.le_of_ble_eq_true rfl)) dX12_mound_6 ⟨Nat.le_of_ble_eq_true rfl, Nat.le_of_ble_eq_true rfl⟩) hP hS hA (fun r_1 H locs wr_1 hP hS => ?_)
  have wr_1 : r_1 = bi ((0 : Int32) ≤ n1 ∧ n1 ≤ 23) := isIn32 (lo := 0) (hi := 23) (by decide) (by decide) wr_1
  subst wr_1
  refine lv_bi_eq (tgt := 24) hx hb dX12_mound_9 (by decide) (fun c_2 => ?_) (fun c_2 => ?_)
  · refine lv_iconst (v := 0) hx hb dX12_mound_24 (by decide) ?_
    exact W.zret (v := 0) hx hb hr (by decide) (fun t ht hW => ⟨⟨(0 : Int32), (), rfl, (lf_X12_mound_3 h q i n1 n2 c_2), bx0⟩, hS.F ht⟩) hS.2.2 dX12_mound_25 hlocks
  · refine lv_iload_n hx hb dX12_mound_12 rfl (lv_at hl 2 rfl) ?_
    refine lv_i2l (v := n2.toInt64) hx hb dX12_mound_13 rfl ?_
    refine lv_lconst (v := 0) hx hb dX12_mound_14 (by decide) ?_
    refine lv_ldc2 (v := 1000) hx hb hown (hts _ k_1601) dX12_mound_15 ?_
    refine eRi (va_runS (As := [.long n2.toInt64, .long 0, .long 1000]) (rest := []) ⟨hx, hb, hml, hown, hts⟩ (c_X12_isIn l D cI cB cZ cJ tx n2.toInt64 0 1000 H.size) (zS hts k_1602 v_X12_isIn ⟨Nat.le_of_ble_eq_true rfl, Nat.le_of_ble_eq_true rfl⟩) (px0 hK) rfl rfl hl.1 rfl (lv_room (Nat.le_of_ble_eq_true rfl)) dX12_mound_18 ⟨Nat.le_of_ble_eq_true rfl, Nat.le_of_ble_eq_true rfl⟩) hP hS hA (fun r_4 H locs wr_4 hP hS => ?_)
    have wr_4 : r_4 = bi ((0 : Int32) ≤ n2 ∧ n2 ≤ 1000) := isIn32 (lo := 0) (hi := 1000) (by decide) (by decide) wr_4
    subst wr_4
    refine lv_bi_ne (tgt := 26) hx hb dX12_mound_21 (by decide) (fun c_5 => ?_) (fun c_5 => ?_)
    · refine lv_aload_n hx hb dX12_mound_26 rfl (lv_at hl 0 rfl) ?_
      refine va_get (D := D) (ci := 12) (v := .ref (q 48)) (C := RX12) (T := TX12) (N := 81) hx hb hts inT_X12 hown hK.1 hP 0 rfl rfl 48 (by decide) (hts _ k_1401) (fun _ h9 => h9) rfl dX12_mound_27 ?_
      refine lv_iload_n hx hb dX12_mound_30 rfl (lv_at hl 1 rfl) ?_
      refine lv_iload_n hx hb dX12_mound_31 rfl (lv_at hl 2 rfl) ?_
      refine st_i hx hb hK hP hD hS 1 rfl (lf_X12_mound_6 h q i n1 n2 c_2 c_5) dX12_mound_32 (fun f_7 H locs hP hD hS => ?_)
      have hP : va_P D vwCl [(h, .inr (12, mG q i)), (q 48, .inl (cI, 24, .inl f_7))] H := hP
      have hD : va_D A [(h, .inr (12, mG q i)), (q 48, .inl (cI, 24, .inl f_7))] := hD
      refine lv_iconst (v := 1) hx hb dX12_mound_33 (by decide) ?_
      exact W.zret (v := 1) hx hb hr (by decide) (fun t ht hW => ⟨⟨(1 : Int32), (), rfl, (lf_X12_mound_8 h q i n1 n2 c_2 c_5), bx0⟩, hS.F ht⟩) hS.2.2 dX12_mound_34 hlocks
    · refine lv_iconst (v := 0) hx hb dX12_mound_24 (by decide) ?_
      exact W.zret (v := 0) hx hb hr (by decide) (fun t ht hW => ⟨⟨(0 : Int32), (), rfl, (lf_X12_mound_9 h q i n1 n2 c_2 c_5), bx0⟩, hS.F ht⟩) hS.2.2 dX12_mound_25 hlocks

theorem lf_X12_bury_1 (h : Nat) (q : Nat → Nat) (i : Nat → Int32) (n1 : Int32) (h2 : i 2 = 0) : ((-1) : Int32) = -1 := by
  first | rfl | (simp only [bi]; rw [if_pos (by grind)]; done) | (simp only [bi]; rw [if_neg (by grind)]; done) | grind
set_option maxHeartbeats 4000000 in
set_option maxRecDepth 100000 in
theorem c_X12_bury (l : Launch) (D : va_G) (cI cB cZ cJ : ClassId) (tx : List (ClassId × FieldType)) (h : Nat) (q : Nat → Nat) (i : Nat → Int32) (n1 : Int32) (h2 : i 2 = 0) : WrI l D cI cB cZ cJ tx yX12_bury cX12_bury 6 (some .int) 1 0 0 [.ref h, .int n1] [(h, .inr (12, mG q i))] (fun (r : Int32) (_ : Unit) => r = -1) (fun _ => []) := by
  refine wri_of2 (by decide) (Nat.le_of_ble_eq_true rfl) ?_
  intro p e s m below meth c A ls H locs hC hK hP hD hA hS hl
  obtain ⟨hx, hb, hr, hml, hown, hts, hlocks, hin⟩ := hC
  have hown : s.vm.findClass RX12 = some m.cls := hown
  have hl : lv_has ls 6 [(0, .ref h), (1, .int n1)] := hl
  refine lv_aload_n hx hb dX12_bury_0 rfl (lv_at hl 0 rfl) ?_
  refine va_get (D := D) (ci := 12) (v := .int (i 2)) (C := RX12) (T := TX12) (N := 81) hx hb hts inT_X12 hown hK.1 hP 0 rfl rfl 2 (by decide) (hts _ k_1355) (fun _ h9 => h9) rfl dX12_bury_1 ?_
  refine lv_topv (y := 0) h2 ?_
  refine lv_if_eq (tgt := 19) hx hb dX12_bury_4 (by decide) (fun _ => ?_) (fun c => absurd c (by decide))
  refine lv_iconst (v := (-1)) hx hb dX12_bury_19 (by decide) ?_
  exact W.iret (v := (-1)) hx hb hr (fun t ht hW => ⟨⟨((-1) : Int32), (), rfl, (lf_X12_bury_1 h q i n1 h2), bx0⟩, hS.F ht⟩) hS.2.2 dX12_bury_20 hlocks

theorem lf_X12_lies_2 (h : Nat) (q : Nat → Nat) (i : Nat → Int32) (n1 : Int32) (n2 : Int32) (n3 : Int32) (n4 : Int32) (n5 : Int32) (h2 : i 2 = 0) : (0 : Int32) = 0 := by
  first | rfl | (simp only [bi]; rw [if_pos (by grind)]; done) | (simp only [bi]; rw [if_neg (by grind)]; done) | grind
set_option maxHeartbeats 4000000 in
set_option maxRecDepth 100000 in
theorem c_X12_lies (l : Launch) (D : va_G) (cI cB cZ cJ : ClassId) (tx : List (ClassId × FieldType)) (h : Nat) (q : Nat → Nat) (i : Nat → Int32) (n1 : Int32) (n2 : Int32) (n3 : Int32) (n4 : Int32) (n5 : Int32) (h2 : i 2 = 0) : WrI l D cI cB cZ cJ tx yX12_lies cX12_lies 6 (some .boolean) 3 0 0 [.ref h, .int n1, .int n2, .int n3, .int n4, .int n5] [(h, .inr (12, mG q i))] (fun (r : Int32) (_ : Unit) => r = 0) (fun _ => []) := by
  refine wri_of2 (by decide) (Nat.le_of_ble_eq_true rfl) ?_
  intro p e s m below meth c A ls H locs hC hK hP hD hA hS hl
  obtain ⟨hx, hb, hr, hml, hown, hts, hlocks, hin⟩ := hC
  have hown : s.vm.findClass RX12 = some m.cls := hown
  have hl : lv_has ls 6 [(0, .ref h), (1, .int n1), (2, .int n2), (3, .int n3), (4, .int n4), (5, .int n5)] := hl
  refine lv_aload_n hx hb dX12_lies_0 rfl (lv_at hl 0 rfl) ?_
  refine lv_iload_n hx hb dX12_lies_1 rfl (lv_at hl 1 rfl) ?_
  refine lv_iload_n hx hb dX12_lies_2 rfl (lv_at hl 2 rfl) ?_
  refine lv_iload_n hx hb dX12_lies_3 rfl (lv_at hl 3 rfl) ?_
  refine eRi (va_runV (As := [.int n1, .int n2, .int n3]) (rest := []) ⟨hx, hb, hml, hown, hts⟩ (c_X12_isRivet l D cI cB cZ cJ tx h q i n1 n2 n3 h2 H.size) (zV hts k_1799 v_X12_isRivet ⟨Nat.le_of_ble_eq_true rfl, Nat.le_of_ble_eq_true rfl⟩) (pV (px1 hK hP 0 rfl) hK hP 0 rfl rfl) rfl rfl hl.1 rfl (lv_room (Nat.le_of_ble_eq_true rfl)) dX12_lies_4 ⟨Nat.le_of_ble_eq_true rfl, Nat.le_of_ble_eq_true rfl⟩) hP hS hA (fun r_1 H locs wr_1 hP hS => ?_)
  subst wr_1
  refine lv_if_eq (tgt := 40) hx hb dX12_lies_7 (by decide) (fun _ => ?_) (fun c => absurd c (by decide))
  refine lv_iconst (v := 0) hx hb dX12_lies_40 (by decide) ?_
  exact W.zret (v := 0) hx hb hr (by decide) (fun t ht hW => ⟨⟨(0 : Int32), (), rfl, (lf_X12_lies_2 h q i n1 n2 n3 n4 n5 h2), bx0⟩, hS.F ht⟩) hS.2.2 dX12_lies_41 hlocks

theorem lf_X12_gone_2 (h : Nat) (q : Nat → Nat) (i : Nat → Int32) (n1 : Int32) (n2 : Int32) (n3 : Int32) (h2 : i 2 = 0) : (0 : Int32) = 0 := by
  first | rfl | (simp only [bi]; rw [if_pos (by grind)]; done) | (simp only [bi]; rw [if_neg (by grind)]; done) | grind
set_option maxHeartbeats 4000000 in
set_option maxRecDepth 100000 in
theorem c_X12_gone (l : Launch) (D : va_G) (cI cB cZ cJ : ClassId) (tx : List (ClassId × FieldType)) (h : Nat) (q : Nat → Nat) (i : Nat → Int32) (n1 : Int32) (n2 : Int32) (n3 : Int32) (h2 : i 2 = 0) : WrI l D cI cB cZ cJ tx yX12_gone cX12_gone 4 (some .boolean) 3 0 0 [.ref h, .int n1, .int n2, .int n3] [(h, .inr (12, mG q i))] (fun (r : Int32) (_ : Unit) => r = 0) (fun _ => []) := by
  refine wri_of2 (by decide) (Nat.le_of_ble_eq_true rfl) ?_
  intro p e s m below meth c A ls H locs hC hK hP hD hA hS hl
  obtain ⟨hx, hb, hr, hml, hown, hts, hlocks, hin⟩ := hC
  have hown : s.vm.findClass RX12 = some m.cls := hown
  have hl : lv_has ls 4 [(0, .ref h), (1, .int n1), (2, .int n2), (3, .int n3)] := hl
  refine lv_aload_n hx hb dX12_gone_0 rfl (lv_at hl 0 rfl) ?_
  refine lv_iload_n hx hb dX12_gone_1 rfl (lv_at hl 1 rfl) ?_
  refine lv_iload_n hx hb dX12_gone_2 rfl (lv_at hl 2 rfl) ?_
  refine lv_iload_n hx hb dX12_gone_3 rfl (lv_at hl 3 rfl) ?_
  refine eRi (va_runV (As := [.int n1, .int n2, .int n3]) (rest := []) ⟨hx, hb, hml, hown, hts⟩ (c_X12_isRivet l D cI cB cZ cJ tx h q i n1 n2 n3 h2 H.size) (zV hts k_1799 v_X12_isRivet ⟨Nat.le_of_ble_eq_true rfl, Nat.le_of_ble_eq_true rfl⟩) (pV (px1 hK hP 0 rfl) hK hP 0 rfl rfl) rfl rfl hl.1 rfl (lv_room (Nat.le_of_ble_eq_true rfl)) dX12_gone_4 ⟨Nat.le_of_ble_eq_true rfl, Nat.le_of_ble_eq_true rfl⟩) hP hS hA (fun r_1 H locs wr_1 hP hS => ?_)
  subst wr_1
  refine lv_if_eq (tgt := 24) hx hb dX12_gone_7 (by decide) (fun _ => ?_) (fun c => absurd c (by decide))
  refine lv_iconst (v := 0) hx hb dX12_gone_24 (by decide) ?_
  exact W.zret (v := 0) hx hb hr (by decide) (fun t ht hW => ⟨⟨(0 : Int32), (), rfl, (lf_X12_gone_2 h q i n1 n2 n3 h2), bx0⟩, hS.F ht⟩) hS.2.2 dX12_gone_25 hlocks

theorem lf_X12_rivet_2 (h : Nat) (q : Nat → Nat) (i : Nat → Int32) (n1 : Int32) (n2 : Int32) (n3 : Int32) (n4 : Int32) (h2 : i 2 = 0) : ((-10000) : Int32) = -10000 := by
  first | rfl | (simp only [bi]; rw [if_pos (by grind)]; done) | (simp only [bi]; rw [if_neg (by grind)]; done) | grind
set_option maxHeartbeats 4000000 in
set_option maxRecDepth 100000 in
theorem c_X12_rivet (l : Launch) (D : va_G) (cI cB cZ cJ : ClassId) (tx : List (ClassId × FieldType)) (h : Nat) (q : Nat → Nat) (i : Nat → Int32) (n1 : Int32) (n2 : Int32) (n3 : Int32) (n4 : Int32) (h2 : i 2 = 0) : WrI l D cI cB cZ cJ tx yX12_rivet cX12_rivet 6 (some .int) 3 0 0 [.ref h, .int n1, .int n2, .int n3, .int n4] [(h, .inr (12, mG q i))] (fun (r : Int32) (_ : Unit) => r = -10000) (fun _ => []) := by
  refine wri_of2 (by decide) (Nat.le_of_ble_eq_true rfl) ?_
  intro p e s m below meth c A ls H locs hC hK hP hD hA hS hl
  obtain ⟨hx, hb, hr, hml, hown, hts, hlocks, hin⟩ := hC
  have hown : s.vm.findClass RX12 = some m.cls := hown
  have hl : lv_has ls 6 [(0, .ref h), (1, .int n1), (2, .int n2), (3, .int n3), (4, .int n4)] := hl
  refine lv_aload_n hx hb dX12_rivet_0 rfl (lv_at hl 0 rfl) ?_
  refine lv_iload_n hx hb dX12_rivet_1 rfl (lv_at hl 1 rfl) ?_
  refine lv_iload_n hx hb dX12_rivet_2 rfl (lv_at hl 2 rfl) ?_
  refine lv_iload_n hx hb dX12_rivet_3 rfl (lv_at hl 3 rfl) ?_
  refine eRi (va_runV (As := [.int n1, .int n2, .int n3]) (rest := []) ⟨hx, hb, hml, hown, hts⟩ (c_X12_isRivet l D cI cB cZ cJ tx h q i n1 n2 n3 h2 H.size) (zV hts k_1799 v_X12_isRivet ⟨Nat.le_of_ble_eq_true rfl, Nat.le_of_ble_eq_true rfl⟩) (pV (px1 hK hP 0 rfl) hK hP 0 rfl rfl) rfl rfl hl.1 rfl (lv_room (Nat.le_of_ble_eq_true rfl)) dX12_rivet_4 ⟨Nat.le_of_ble_eq_true rfl, Nat.le_of_ble_eq_true rfl⟩) hP hS hA (fun r_1 H locs wr_1 hP hS => ?_)
  subst wr_1
  refine lv_if_ne (tgt := 14) hx hb dX12_rivet_7 (by decide) (fun c => absurd c (by decide)) (fun _ => ?_)
  refine lv_sipush (v := (-10000)) hx hb dX12_rivet_10 (by decide) ?_
  exact W.iret (v := (-10000)) hx hb hr (fun t ht hW => ⟨⟨((-10000) : Int32), (), rfl, (lf_X12_rivet_2 h q i n1 n2 n3 n4 h2), bx0⟩, hS.F ht⟩) hS.2.2 dX12_rivet_13 hlocks

set_option maxHeartbeats 4000000 in
set_option maxRecDepth 100000 in
theorem c_X12_changes (l : Launch) (D : va_G) (cI cB cZ cJ : ClassId) (tx : List (ClassId × FieldType)) (h : Nat) (q : Nat → Nat) (i : Nat → Int32) (f : Nat → Int32) : WrV l D cI cB cZ cJ tx yX12_changes cX12_changes 2 none 0 0 0 [.ref h] [(h, .inr (12, mG q i)), (q 66, .inl (cZ, 8, .inl f))] (fun (_ : Unit) => True) (fun _ => []) := by
  refine wrv_of2 (by decide) (Nat.le_of_ble_eq_true rfl) ?_
  intro p e s m below meth c A ls H locs hC hK hP hD hA hS hl
  obtain ⟨hx, hb, hr, hml, hown, hts, hlocks, hin⟩ := hC
  have hown : s.vm.findClass RX12 = some m.cls := hown
  have hl : lv_has ls 2 [(0, .ref h)] := hl
  refine lv_iconst (v := 0) hx hb dX12_changes_0 (by decide) ?_
  refine lv_istore_n (lv' := [(1, .int 0), (0, .ref h)]) hx hb dX12_changes_1 rfl hl (by decide) rfl (fun ls hl => ?_)
  refine lv_iload_n hx hb dX12_changes_2 rfl (lv_at hl 0 rfl) ?_
  refine lv_bipush (v := 8) hx hb dX12_changes_3 (by decide) ?_
  refine lv_icmp_ge (tgt := 21) hx hb dX12_changes_5 (by decide) (fun c => absurd c (by decide)) (fun _ => ?_)
  refine lv_aload_n hx hb dX12_changes_8 rfl (lv_at hl 1 rfl) ?_
  refine va_get (D := D) (ci := 12) (v := .ref (q 66)) (C := RX12) (T := TX12) (N := 81) hx hb hts inT_X12 hown hK.1 hP 0 rfl rfl 66 (by decide) (hts _ k_1419) (fun _ h9 => h9) rfl dX12_changes_9 ?_
  refine lv_iload_n hx hb dX12_changes_12 rfl (lv_at hl 0 rfl) ?_
  refine lv_iconst (v := 0) hx hb dX12_changes_13 (by decide) ?_
  refine st_z hx hb hK hP hD hS 1 rfl (by unfold vp_in; decide) dX12_changes_14 (fun f_1 H locs hP hD hS => ?_)
  have hP : va_P D vwCl [(h, .inr (12, mG q i)), (q 66, .inl (cZ, 8, .inl f_1))] H := hP
  have hD : va_D A [(h, .inr (12, mG q i)), (q 66, .inl (cZ, 8, .inl f_1))] := hD
  refine lv_iinc (v := 1) (lv' := [(1, .int 1), (0, .ref h)]) hx hb dX12_changes_15 hl (k := 0) rfl (by decide) (by decide) rfl (fun ls hl => ?_)
  refine lv_goto (tgt := 2) hx hb dX12_changes_18 (by decide) ?_
  refine lv_iload_n hx hb dX12_changes_2 rfl (lv_at hl 0 rfl) ?_
  refine lv_bipush (v := 8) hx hb dX12_changes_3 (by decide) ?_
  refine lv_icmp_ge (tgt := 21) hx hb dX12_changes_5 (by decide) (fun c => absurd c (by decide)) (fun _ => ?_)
  refine lv_aload_n hx hb dX12_changes_8 rfl (lv_at hl 1 rfl) ?_
  refine va_get (D := D) (ci := 12) (v := .ref (q 66)) (C := RX12) (T := TX12) (N := 81) hx hb hts inT_X12 hown hK.1 hP 0 rfl rfl 66 (by decide) (hts _ k_1419) (fun _ h9 => h9) rfl dX12_changes_9 ?_
  refine lv_iload_n hx hb dX12_changes_12 rfl (lv_at hl 0 rfl) ?_
  refine lv_iconst (v := 0) hx hb dX12_changes_13 (by decide) ?_
  refine st_z hx hb hK hP hD hS 1 rfl (by unfold vp_in; decide) dX12_changes_14 (fun f_2 H locs hP hD hS => ?_)
  have hP : va_P D vwCl [(h, .inr (12, mG q i)), (q 66, .inl (cZ, 8, .inl f_2))] H := hP
  have hD : va_D A [(h, .inr (12, mG q i)), (q 66, .inl (cZ, 8, .inl f_2))] := hD
  refine lv_iinc (v := 2) (lv' := [(1, .int 2), (0, .ref h)]) hx hb dX12_changes_15 hl (k := 0) rfl (by decide) (by decide) rfl (fun ls hl => ?_)
  refine lv_goto (tgt := 2) hx hb dX12_changes_18 (by decide) ?_
  refine lv_iload_n hx hb dX12_changes_2 rfl (lv_at hl 0 rfl) ?_
  refine lv_bipush (v := 8) hx hb dX12_changes_3 (by decide) ?_
  refine lv_icmp_ge (tgt := 21) hx hb dX12_changes_5 (by decide) (fun c => absurd c (by decide)) (fun _ => ?_)
  refine lv_aload_n hx hb dX12_changes_8 rfl (lv_at hl 1 rfl) ?_
  refine va_get (D := D) (ci := 12) (v := .ref (q 66)) (C := RX12) (T := TX12) (N := 81) hx hb hts inT_X12 hown hK.1 hP 0 rfl rfl 66 (by decide) (hts _ k_1419) (fun _ h9 => h9) rfl dX12_changes_9 ?_
  refine lv_iload_n hx hb dX12_changes_12 rfl (lv_at hl 0 rfl) ?_
  refine lv_iconst (v := 0) hx hb dX12_changes_13 (by decide) ?_
  refine st_z hx hb hK hP hD hS 1 rfl (by unfold vp_in; decide) dX12_changes_14 (fun f_3 H locs hP hD hS => ?_)
  have hP : va_P D vwCl [(h, .inr (12, mG q i)), (q 66, .inl (cZ, 8, .inl f_3))] H := hP
  have hD : va_D A [(h, .inr (12, mG q i)), (q 66, .inl (cZ, 8, .inl f_3))] := hD
  refine lv_iinc (v := 3) (lv' := [(1, .int 3), (0, .ref h)]) hx hb dX12_changes_15 hl (k := 0) rfl (by decide) (by decide) rfl (fun ls hl => ?_)
  refine lv_goto (tgt := 2) hx hb dX12_changes_18 (by decide) ?_
  refine lv_iload_n hx hb dX12_changes_2 rfl (lv_at hl 0 rfl) ?_
  refine lv_bipush (v := 8) hx hb dX12_changes_3 (by decide) ?_
  refine lv_icmp_ge (tgt := 21) hx hb dX12_changes_5 (by decide) (fun c => absurd c (by decide)) (fun _ => ?_)
  refine lv_aload_n hx hb dX12_changes_8 rfl (lv_at hl 1 rfl) ?_
  refine va_get (D := D) (ci := 12) (v := .ref (q 66)) (C := RX12) (T := TX12) (N := 81) hx hb hts inT_X12 hown hK.1 hP 0 rfl rfl 66 (by decide) (hts _ k_1419) (fun _ h9 => h9) rfl dX12_changes_9 ?_
  refine lv_iload_n hx hb dX12_changes_12 rfl (lv_at hl 0 rfl) ?_
  refine lv_iconst (v := 0) hx hb dX12_changes_13 (by decide) ?_
  refine st_z hx hb hK hP hD hS 1 rfl (by unfold vp_in; decide) dX12_changes_14 (fun f_4 H locs hP hD hS => ?_)
  have hP : va_P D vwCl [(h, .inr (12, mG q i)), (q 66, .inl (cZ, 8, .inl f_4))] H := hP
  have hD : va_D A [(h, .inr (12, mG q i)), (q 66, .inl (cZ, 8, .inl f_4))] := hD
  refine lv_iinc (v := 4) (lv' := [(1, .int 4), (0, .ref h)]) hx hb dX12_changes_15 hl (k := 0) rfl (by decide) (by decide) rfl (fun ls hl => ?_)
  refine lv_goto (tgt := 2) hx hb dX12_changes_18 (by decide) ?_
  refine lv_iload_n hx hb dX12_changes_2 rfl (lv_at hl 0 rfl) ?_
  refine lv_bipush (v := 8) hx hb dX12_changes_3 (by decide) ?_
  refine lv_icmp_ge (tgt := 21) hx hb dX12_changes_5 (by decide) (fun c => absurd c (by decide)) (fun _ => ?_)
  refine lv_aload_n hx hb dX12_changes_8 rfl (lv_at hl 1 rfl) ?_
  refine va_get (D := D) (ci := 12) (v := .ref (q 66)) (C := RX12) (T := TX12) (N := 81) hx hb hts inT_X12 hown hK.1 hP 0 rfl rfl 66 (by decide) (hts _ k_1419) (fun _ h9 => h9) rfl dX12_changes_9 ?_
  refine lv_iload_n hx hb dX12_changes_12 rfl (lv_at hl 0 rfl) ?_
  refine lv_iconst (v := 0) hx hb dX12_changes_13 (by decide) ?_
  refine st_z hx hb hK hP hD hS 1 rfl (by unfold vp_in; decide) dX12_changes_14 (fun f_5 H locs hP hD hS => ?_)
  have hP : va_P D vwCl [(h, .inr (12, mG q i)), (q 66, .inl (cZ, 8, .inl f_5))] H := hP
  have hD : va_D A [(h, .inr (12, mG q i)), (q 66, .inl (cZ, 8, .inl f_5))] := hD
  refine lv_iinc (v := 5) (lv' := [(1, .int 5), (0, .ref h)]) hx hb dX12_changes_15 hl (k := 0) rfl (by decide) (by decide) rfl (fun ls hl => ?_)
  refine lv_goto (tgt := 2) hx hb dX12_changes_18 (by decide) ?_
  refine lv_iload_n hx hb dX12_changes_2 rfl (lv_at hl 0 rfl) ?_
  refine lv_bipush (v := 8) hx hb dX12_changes_3 (by decide) ?_
  refine lv_icmp_ge (tgt := 21) hx hb dX12_changes_5 (by decide) (fun c => absurd c (by decide)) (fun _ => ?_)
  refine lv_aload_n hx hb dX12_changes_8 rfl (lv_at hl 1 rfl) ?_
  refine va_get (D := D) (ci := 12) (v := .ref (q 66)) (C := RX12) (T := TX12) (N := 81) hx hb hts inT_X12 hown hK.1 hP 0 rfl rfl 66 (by decide) (hts _ k_1419) (fun _ h9 => h9) rfl dX12_changes_9 ?_
  refine lv_iload_n hx hb dX12_changes_12 rfl (lv_at hl 0 rfl) ?_
  refine lv_iconst (v := 0) hx hb dX12_changes_13 (by decide) ?_
  refine st_z hx hb hK hP hD hS 1 rfl (by unfold vp_in; decide) dX12_changes_14 (fun f_6 H locs hP hD hS => ?_)
  have hP : va_P D vwCl [(h, .inr (12, mG q i)), (q 66, .inl (cZ, 8, .inl f_6))] H := hP
  have hD : va_D A [(h, .inr (12, mG q i)), (q 66, .inl (cZ, 8, .inl f_6))] := hD
  refine lv_iinc (v := 6) (lv' := [(1, .int 6), (0, .ref h)]) hx hb dX12_changes_15 hl (k := 0) rfl (by decide) (by decide) rfl (fun ls hl => ?_)
  refine lv_goto (tgt := 2) hx hb dX12_changes_18 (by decide) ?_
  refine lv_iload_n hx hb dX12_changes_2 rfl (lv_at hl 0 rfl) ?_
  refine lv_bipush (v := 8) hx hb dX12_changes_3 (by decide) ?_
  refine lv_icmp_ge (tgt := 21) hx hb dX12_changes_5 (by decide) (fun c => absurd c (by decide)) (fun _ => ?_)
  refine lv_aload_n hx hb dX12_changes_8 rfl (lv_at hl 1 rfl) ?_
  refine va_get (D := D) (ci := 12) (v := .ref (q 66)) (C := RX12) (T := TX12) (N := 81) hx hb hts inT_X12 hown hK.1 hP 0 rfl rfl 66 (by decide) (hts _ k_1419) (fun _ h9 => h9) rfl dX12_changes_9 ?_
  refine lv_iload_n hx hb dX12_changes_12 rfl (lv_at hl 0 rfl) ?_
  refine lv_iconst (v := 0) hx hb dX12_changes_13 (by decide) ?_
  refine st_z hx hb hK hP hD hS 1 rfl (by unfold vp_in; decide) dX12_changes_14 (fun f_7 H locs hP hD hS => ?_)
  have hP : va_P D vwCl [(h, .inr (12, mG q i)), (q 66, .inl (cZ, 8, .inl f_7))] H := hP
  have hD : va_D A [(h, .inr (12, mG q i)), (q 66, .inl (cZ, 8, .inl f_7))] := hD
  refine lv_iinc (v := 7) (lv' := [(1, .int 7), (0, .ref h)]) hx hb dX12_changes_15 hl (k := 0) rfl (by decide) (by decide) rfl (fun ls hl => ?_)
  refine lv_goto (tgt := 2) hx hb dX12_changes_18 (by decide) ?_
  refine lv_iload_n hx hb dX12_changes_2 rfl (lv_at hl 0 rfl) ?_
  refine lv_bipush (v := 8) hx hb dX12_changes_3 (by decide) ?_
  refine lv_icmp_ge (tgt := 21) hx hb dX12_changes_5 (by decide) (fun c => absurd c (by decide)) (fun _ => ?_)
  refine lv_aload_n hx hb dX12_changes_8 rfl (lv_at hl 1 rfl) ?_
  refine va_get (D := D) (ci := 12) (v := .ref (q 66)) (C := RX12) (T := TX12) (N := 81) hx hb hts inT_X12 hown hK.1 hP 0 rfl rfl 66 (by decide) (hts _ k_1419) (fun _ h9 => h9) rfl dX12_changes_9 ?_
  refine lv_iload_n hx hb dX12_changes_12 rfl (lv_at hl 0 rfl) ?_
  refine lv_iconst (v := 0) hx hb dX12_changes_13 (by decide) ?_
  refine st_z hx hb hK hP hD hS 1 rfl (by unfold vp_in; decide) dX12_changes_14 (fun f_8 H locs hP hD hS => ?_)
  have hP : va_P D vwCl [(h, .inr (12, mG q i)), (q 66, .inl (cZ, 8, .inl f_8))] H := hP
  have hD : va_D A [(h, .inr (12, mG q i)), (q 66, .inl (cZ, 8, .inl f_8))] := hD
  refine lv_iinc (v := 8) (lv' := [(1, .int 8), (0, .ref h)]) hx hb dX12_changes_15 hl (k := 0) rfl (by decide) (by decide) rfl (fun ls hl => ?_)
  refine lv_goto (tgt := 2) hx hb dX12_changes_18 (by decide) ?_
  refine lv_iload_n hx hb dX12_changes_2 rfl (lv_at hl 0 rfl) ?_
  refine lv_bipush (v := 8) hx hb dX12_changes_3 (by decide) ?_
  refine lv_icmp_ge (tgt := 21) hx hb dX12_changes_5 (by decide) (fun _ => ?_) (fun c => absurd c (by decide))
  exact W.vret hx hb hr (fun t ht hW => ⟨⟨(), rfl, trivial, bx0⟩, hS.F ht⟩) hS.2.2 dX12_changes_21 hlocks

theorem lf_X12_cut_6 (h : Nat) (q : Nat → Nat) (i : Nat → Int32) (n1 : Int32) (h2 : i 2 = 0) (c_2 : (0 : Int32) ≤ n1 ∧ n1 ≤ 0) (i_3 : Nat → Int32) : (1 : Int32) = bi (n1 = 0) := by
  first | rfl | (simp only [bi]; rw [if_pos (by grind)]; done) | (simp only [bi]; rw [if_neg (by grind)]; done) | grind
theorem lf_X12_cut_7 (h : Nat) (q : Nat → Nat) (i : Nat → Int32) (n1 : Int32) (h2 : i 2 = 0) (c_2 : ¬ ((0 : Int32) ≤ n1 ∧ n1 ≤ 0)) : (0 : Int32) = bi (n1 = 0) := by
  first | rfl | (simp only [bi]; rw [if_pos (by grind)]; done) | (simp only [bi]; rw [if_neg (by grind)]; done) | grind
set_option maxHeartbeats 4000000 in
set_option maxRecDepth 100000 in
theorem c_X12_cut (l : Launch) (D : va_G) (cI cB cZ cJ : ClassId) (tx : List (ClassId × FieldType)) (h : Nat) (q : Nat → Nat) (i : Nat → Int32) (n1 : Int32) (h2 : i 2 = 0) : WrI l D cI cB cZ cJ tx yX12_cut cX12_cut 2 (some .boolean) 2 0 0 [.ref h, .int n1] [(h, .inr (12, mG q i)), (q 66, .inl (cZ, 8, .inl (fun _ => 0)))] (fun (r : Int32) (_ : Unit) => r = bi (n1 = 0)) (fun _ => []) := by
  refine wri_of2 (by decide) (Nat.le_of_ble_eq_true rfl) ?_
  intro p e s m below meth c A ls H locs hC hK hP hD hA hS hl
  obtain ⟨hx, hb, hr, hml, hown, hts, hlocks, hin⟩ := hC
  have hown : s.vm.findClass RX12 = some m.cls := hown
  have hl : lv_has ls 2 [(0, .ref h), (1, .int n1)] := hl
  refine lv_iload_n hx hb dX12_cut_0 rfl (lv_at hl 1 rfl) ?_
  refine lv_i2l (v := n1.toInt64) hx hb dX12_cut_1 rfl ?_
  refine lv_lconst (v := 0) hx hb dX12_cut_2 (by decide) ?_
  refine lv_iconst (v := 1) hx hb dX12_cut_3 (by decide) ?_
  refine lv_aload_n hx hb dX12_cut_4 rfl (lv_at hl 0 rfl) ?_
  refine va_get (D := D) (ci := 12) (v := .int (i 2)) (C := RX12) (T := TX12) (N := 81) hx hb hts inT_X12 hown hK.1 hP 0 rfl rfl 2 (by decide) (hts _ k_1355) (fun _ h9 => h9) rfl dX12_cut_5 ?_
  refine lv_topv (y := 0) h2 ?_
  refine lv_ishl hx hb dX12_cut_8 ?_
  refine lv_topv (y := 1) (by decide) ?_
  refine lv_iconst (v := 1) hx hb dX12_cut_9 (by decide) ?_
  refine lv_isub hx hb dX12_cut_10 ?_
  refine lv_topv (y := 0) (by decide) ?_
  refine lv_i2l (v := 0) hx hb dX12_cut_11 (by decide) ?_
  refine eRi (va_runS (As := [.long n1.toInt64, .long 0, .long 0]) (rest := []) ⟨hx, hb, hml, hown, hts⟩ (c_X12_isIn l D cI cB cZ cJ tx n1.toInt64 0 0 H.size) (zS hts k_1602 v_X12_isIn ⟨Nat.le_of_ble_eq_true rfl, Nat.le_of_ble_eq_true rfl⟩) (px0 hK) rfl rfl hl.1 rfl (lv_room (Nat.le_of_ble_eq_true rfl)) dX12_cut_12 ⟨Nat.le_of_ble_eq_true rfl, Nat.le_of_ble_eq_true rfl⟩) hP hS hA (fun r_1 H locs wr_1 hP hS => ?_)
  have wr_1 : r_1 = bi ((0 : Int32) ≤ n1 ∧ n1 ≤ 0) := isIn32 (lo := 0) (hi := 0) (by decide) (by decide) wr_1
  subst wr_1
  refine lv_bi_ne (tgt := 20) hx hb dX12_cut_15 (by decide) (fun c_2 => ?_) (fun c_2 => ?_)
  · refine lv_aload_n hx hb dX12_cut_20 rfl (lv_at hl 0 rfl) ?_
    refine lv_iload_n hx hb dX12_cut_21 rfl (lv_at hl 1 rfl) ?_
    refine va_put (D := D) (ci := 12) (v := .int n1) (ty := .int) (C := RX12) (T := TX12) (N := 81) hx hb hts inT_X12 tyX12 tyX12_ok nmX12 hown hK.1 hP hD hS 0 rfl rfl 49 (by decide) (hts _ k_1402) (fun _ h9 => h9) rfl (by decide +kernel) rfl rfl (Nat.le_of_ble_eq_true rfl) dX12_cut_22 (fun H locs hP hD hS => ?_)
    obtain ⟨i_3, ei_3⟩ : ∃ z : Nat → Int32, z = upd i 49 n1 := ⟨_, rfl⟩
    have hi_3_2 : i_3 2 = 0 := by rw [ei_3]; exact h2
    have hi_3_49 : i_3 49 = n1 := by rw [ei_3]; rfl
    have hP : va_P D vwCl [(h, .inr (12, mG q i_3)), (q 66, .inl (cZ, 8, .inl (fun _ => 0)))] H := by rw [ei_3, ← mG_49]; exact hP
    have hD : va_D A [(h, .inr (12, mG q i_3)), (q 66, .inl (cZ, 8, .inl (fun _ => 0)))] := by rw [ei_3, ← mG_49]; exact hD
    refine lv_aload_n hx hb dX12_cut_25 rfl (lv_at hl 0 rfl) ?_
    refine eWv (wr := []) (va_runV (As := []) (rest := []) ⟨hx, hb, hml, hown, hts⟩ (c_X12_changes l D cI cB cZ cJ tx h q i_3 (fun _ => 0) H.size) (zV hts k_1765 v_X12_changes ⟨Nat.le_of_ble_eq_true rfl, Nat.le_of_ble_eq_true rfl⟩) (pV (pxS hK hP hD [0, 1] (by decide) rfl) hK hP 0 rfl rfl) rfl rfl hl.1 rfl (lv_room (Nat.le_of_ble_eq_true rfl)) dX12_cut_26 ⟨Nat.le_of_ble_eq_true rfl, Nat.le_of_ble_eq_true rfl⟩) hP hD hS hA [0, 1] [] rfl rfl (by decide) (by decide) (fun u_5 H locs wr_4 hP hD hS => ?_)
    have hP : va_P D vwCl [] H := hP
    have hD : va_D A [] := hD
    refine lv_iconst (v := 1) hx hb dX12_cut_29 (by decide) ?_
    exact W.zret (v := 1) hx hb hr (by decide) (fun t ht hW => ⟨⟨(1 : Int32), (), rfl, (lf_X12_cut_6 h q i n1 h2 c_2 i_3), bx0⟩, hS.F ht⟩) hS.2.2 dX12_cut_30 hlocks
  · refine lv_iconst (v := 0) hx hb dX12_cut_18 (by decide) ?_
    exact W.zret (v := 0) hx hb hr (by decide) (fun t ht hW => ⟨⟨(0 : Int32), (), rfl, (lf_X12_cut_7 h q i n1 h2 c_2), bx0⟩, hS.F ht⟩) hS.2.2 dX12_cut_19 hlocks

theorem lf_X12_drawing_1 (h : Nat) (q : Nat → Nat) (i : Nat → Int32) (n1 : Int32) (h2 : i 2 = 0) : ((-1) : Int32) = -1 := by
  first | rfl | (simp only [bi]; rw [if_pos (by grind)]; done) | (simp only [bi]; rw [if_neg (by grind)]; done) | grind
set_option maxHeartbeats 4000000 in
set_option maxRecDepth 100000 in
theorem c_X12_drawing (l : Launch) (D : va_G) (cI cB cZ cJ : ClassId) (tx : List (ClassId × FieldType)) (h : Nat) (q : Nat → Nat) (i : Nat → Int32) (n1 : Int32) (h2 : i 2 = 0) : WrI l D cI cB cZ cJ tx yX12_drawing cX12_drawing 3 (some .int) 1 0 0 [.ref h, .int n1] [(h, .inr (12, mG q i))] (fun (r : Int32) (_ : Unit) => r = -1) (fun _ => []) := by
  refine wri_of2 (by decide) (Nat.le_of_ble_eq_true rfl) ?_
  intro p e s m below meth c A ls H locs hC hK hP hD hA hS hl
  obtain ⟨hx, hb, hr, hml, hown, hts, hlocks, hin⟩ := hC
  have hown : s.vm.findClass RX12 = some m.cls := hown
  have hl : lv_has ls 3 [(0, .ref h), (1, .int n1)] := hl
  refine lv_aload_n hx hb dX12_drawing_0 rfl (lv_at hl 0 rfl) ?_
  refine va_get (D := D) (ci := 12) (v := .int (i 2)) (C := RX12) (T := TX12) (N := 81) hx hb hts inT_X12 hown hK.1 hP 0 rfl rfl 2 (by decide) (hts _ k_1355) (fun _ h9 => h9) rfl dX12_drawing_1 ?_
  refine lv_topv (y := 0) h2 ?_
  refine lv_if_eq (tgt := 27) hx hb dX12_drawing_4 (by decide) (fun _ => ?_) (fun c => absurd c (by decide))
  refine lv_iconst (v := (-1)) hx hb dX12_drawing_27 (by decide) ?_
  exact W.iret (v := (-1)) hx hb hr (fun t ht hW => ⟨⟨((-1) : Int32), (), rfl, (lf_X12_drawing_1 h q i n1 h2), bx0⟩, hS.F ht⟩) hS.2.2 dX12_drawing_28 hlocks

theorem lf_X12_mark_2 (h : Nat) (q : Nat → Nat) (i : Nat → Int32) (n1 : Int32) (n2 : Int32) (n3 : Int32) (n4 : Int32) (n5 : Int32) (n6 : Int32) (h50 : i 50 = 0) : (0 : Int32) = 0 := by
  first | rfl | (simp only [bi]; rw [if_pos (by grind)]; done) | (simp only [bi]; rw [if_neg (by grind)]; done) | grind
set_option maxHeartbeats 4000000 in
set_option maxRecDepth 100000 in
theorem c_X12_mark (l : Launch) (D : va_G) (cI cB cZ cJ : ClassId) (tx : List (ClassId × FieldType)) (h : Nat) (q : Nat → Nat) (i : Nat → Int32) (n1 : Int32) (n2 : Int32) (n3 : Int32) (n4 : Int32) (n5 : Int32) (n6 : Int32) (h50 : i 50 = 0) : WrI l D cI cB cZ cJ tx yX12_mark cX12_mark 7 (some .boolean) 2 0 0 [.ref h, .int n1, .int n2, .int n3, .int n4, .int n5, .int n6] [(h, .inr (12, mG q i))] (fun (r : Int32) (_ : Unit) => r = 0) (fun _ => []) := by
  refine wri_of2 (by decide) (Nat.le_of_ble_eq_true rfl) ?_
  intro p e s m below meth c A ls H locs hC hK hP hD hA hS hl
  obtain ⟨hx, hb, hr, hml, hown, hts, hlocks, hin⟩ := hC
  have hown : s.vm.findClass RX12 = some m.cls := hown
  have hl : lv_has ls 7 [(0, .ref h), (1, .int n1), (2, .int n2), (3, .int n3), (4, .int n4), (5, .int n5), (6, .int n6)] := hl
  refine lv_aload_n hx hb dX12_mark_0 rfl (lv_at hl 0 rfl) ?_
  refine lv_iload_n hx hb dX12_mark_1 rfl (lv_at hl 1 rfl) ?_
  refine eRi (va_runV (As := [.int n1]) (rest := []) ⟨hx, hb, hml, hown, hts⟩ (c_X12_isDrawing l D cI cB cZ cJ tx h q i n1 h50 H.size) (zV hts k_1841 v_X12_isDrawing ⟨Nat.le_of_ble_eq_true rfl, Nat.le_of_ble_eq_true rfl⟩) (pV (px1 hK hP 0 rfl) hK hP 0 rfl rfl) rfl rfl hl.1 rfl (lv_room (Nat.le_of_ble_eq_true rfl)) dX12_mark_2 ⟨Nat.le_of_ble_eq_true rfl, Nat.le_of_ble_eq_true rfl⟩) hP hS hA (fun r_1 H locs wr_1 hP hS => ?_)
  subst wr_1
  refine lv_if_eq (tgt := 49) hx hb dX12_mark_5 (by decide) (fun _ => ?_) (fun c => absurd c (by decide))
  refine lv_iconst (v := 0) hx hb dX12_mark_49 (by decide) ?_
  exact W.zret (v := 0) hx hb hr (by decide) (fun t ht hW => ⟨⟨(0 : Int32), (), rfl, (lf_X12_mark_2 h q i n1 n2 n3 n4 n5 n6 h50), bx0⟩, hS.F ht⟩) hS.2.2 dX12_mark_50 hlocks

theorem lf_X12_draw_2 (h : Nat) (q : Nat → Nat) (i : Nat → Int32) (n1 : Int32) (n2 : Int32) (n3 : Int32) (n4 : Int32) (h50 : i 50 = 0) : ((-1) : Int32) = -1 := by
  first | rfl | (simp only [bi]; rw [if_pos (by grind)]; done) | (simp only [bi]; rw [if_neg (by grind)]; done) | grind
set_option maxHeartbeats 4000000 in
set_option maxRecDepth 100000 in
theorem c_X12_draw (l : Launch) (D : va_G) (cI cB cZ cJ : ClassId) (tx : List (ClassId × FieldType)) (h : Nat) (q : Nat → Nat) (i : Nat → Int32) (n1 : Int32) (n2 : Int32) (n3 : Int32) (n4 : Int32) (h50 : i 50 = 0) : WrI l D cI cB cZ cJ tx yX12_draw cX12_draw 9 (some .int) 2 0 0 [.ref h, .int n1, .int n2, .int n3, .int n4] [(h, .inr (12, mG q i))] (fun (r : Int32) (_ : Unit) => r = -1) (fun _ => []) := by
  refine wri_of2 (by decide) (Nat.le_of_ble_eq_true rfl) ?_
  intro p e s m below meth c A ls H locs hC hK hP hD hA hS hl
  obtain ⟨hx, hb, hr, hml, hown, hts, hlocks, hin⟩ := hC
  have hown : s.vm.findClass RX12 = some m.cls := hown
  have hl : lv_has ls 9 [(0, .ref h), (1, .int n1), (2, .int n2), (3, .int n3), (4, .int n4)] := hl
  refine lv_aload_n hx hb dX12_draw_0 rfl (lv_at hl 0 rfl) ?_
  refine lv_iload_n hx hb dX12_draw_1 rfl (lv_at hl 1 rfl) ?_
  refine eRi (va_runV (As := [.int n1]) (rest := []) ⟨hx, hb, hml, hown, hts⟩ (c_X12_isDrawing l D cI cB cZ cJ tx h q i n1 h50 H.size) (zV hts k_1841 v_X12_isDrawing ⟨Nat.le_of_ble_eq_true rfl, Nat.le_of_ble_eq_true rfl⟩) (pV (px1 hK hP 0 rfl) hK hP 0 rfl rfl) rfl rfl hl.1 rfl (lv_room (Nat.le_of_ble_eq_true rfl)) dX12_draw_2 ⟨Nat.le_of_ble_eq_true rfl, Nat.le_of_ble_eq_true rfl⟩) hP hS hA (fun r_1 H locs wr_1 hP hS => ?_)
  subst wr_1
  refine lv_if_eq (tgt := 49) hx hb dX12_draw_5 (by decide) (fun _ => ?_) (fun c => absurd c (by decide))
  refine lv_iconst (v := (-1)) hx hb dX12_draw_49 (by decide) ?_
  exact W.iret (v := (-1)) hx hb hr (fun t ht hW => ⟨⟨((-1) : Int32), (), rfl, (lf_X12_draw_2 h q i n1 n2 n3 n4 h50), bx0⟩, hS.F ht⟩) hS.2.2 dX12_draw_50 hlocks

theorem lf_X12_marked_2 (h : Nat) (q : Nat → Nat) (i : Nat → Int32) (n1 : Int32) (n2 : Int32) (n3 : Int32) (n4 : Int32) (n5 : Int32) (h50 : i 50 = 0) : ((-10000) : Int32) = -10000 := by
  first | rfl | (simp only [bi]; rw [if_pos (by grind)]; done) | (simp only [bi]; rw [if_neg (by grind)]; done) | grind
set_option maxHeartbeats 4000000 in
set_option maxRecDepth 100000 in
theorem c_X12_marked (l : Launch) (D : va_G) (cI cB cZ cJ : ClassId) (tx : List (ClassId × FieldType)) (h : Nat) (q : Nat → Nat) (i : Nat → Int32) (n1 : Int32) (n2 : Int32) (n3 : Int32) (n4 : Int32) (n5 : Int32) (h50 : i 50 = 0) : WrI l D cI cB cZ cJ tx yX12_marked cX12_marked 7 (some .int) 2 0 0 [.ref h, .int n1, .int n2, .int n3, .int n4, .int n5] [(h, .inr (12, mG q i))] (fun (r : Int32) (_ : Unit) => r = -10000) (fun _ => []) := by
  refine wri_of2 (by decide) (Nat.le_of_ble_eq_true rfl) ?_
  intro p e s m below meth c A ls H locs hC hK hP hD hA hS hl
  obtain ⟨hx, hb, hr, hml, hown, hts, hlocks, hin⟩ := hC
  have hown : s.vm.findClass RX12 = some m.cls := hown
  have hl : lv_has ls 7 [(0, .ref h), (1, .int n1), (2, .int n2), (3, .int n3), (4, .int n4), (5, .int n5)] := hl
  refine lv_aload_n hx hb dX12_marked_0 rfl (lv_at hl 0 rfl) ?_
  refine lv_iload_n hx hb dX12_marked_1 rfl (lv_at hl 1 rfl) ?_
  refine eRi (va_runV (As := [.int n1]) (rest := []) ⟨hx, hb, hml, hown, hts⟩ (c_X12_isDrawing l D cI cB cZ cJ tx h q i n1 h50 H.size) (zV hts k_1841 v_X12_isDrawing ⟨Nat.le_of_ble_eq_true rfl, Nat.le_of_ble_eq_true rfl⟩) (pV (px1 hK hP 0 rfl) hK hP 0 rfl rfl) rfl rfl hl.1 rfl (lv_room (Nat.le_of_ble_eq_true rfl)) dX12_marked_2 ⟨Nat.le_of_ble_eq_true rfl, Nat.le_of_ble_eq_true rfl⟩) hP hS hA (fun r_1 H locs wr_1 hP hS => ?_)
  subst wr_1
  refine lv_if_eq (tgt := 51) hx hb dX12_marked_5 (by decide) (fun _ => ?_) (fun c => absurd c (by decide))
  refine lv_sipush (v := (-10000)) hx hb dX12_marked_51 (by decide) ?_
  exact W.iret (v := (-10000)) hx hb hr (fun t ht hW => ⟨⟨((-10000) : Int32), (), rfl, (lf_X12_marked_2 h q i n1 n2 n3 n4 n5 h50), bx0⟩, hS.F ht⟩) hS.2.2 dX12_marked_54 hlocks

theorem lf_X12_joined_2 (h : Nat) (q : Nat → Nat) (i : Nat → Int32) (n1 : Int32) (n2 : Int32) (n3 : Int32) (h50 : i 50 = 0) : ((-1000000) : Int32) = -1000000 := by
  first | rfl | (simp only [bi]; rw [if_pos (by grind)]; done) | (simp only [bi]; rw [if_neg (by grind)]; done) | grind
set_option maxHeartbeats 4000000 in
set_option maxRecDepth 100000 in
theorem c_X12_joined (l : Launch) (D : va_G) (cI cB cZ cJ : ClassId) (tx : List (ClassId × FieldType)) (h : Nat) (q : Nat → Nat) (i : Nat → Int32) (n1 : Int32) (n2 : Int32) (n3 : Int32) (h50 : i 50 = 0) : WrI l D cI cB cZ cJ tx yX12_joined cX12_joined 4 (some .int) 3 0 0 [.ref h, .int n1, .int n2, .int n3] [(h, .inr (12, mG q i))] (fun (r : Int32) (_ : Unit) => r = -1000000) (fun _ => []) := by
  refine wri_of2 (by decide) (Nat.le_of_ble_eq_true rfl) ?_
  intro p e s m below meth c A ls H locs hC hK hP hD hA hS hl
  obtain ⟨hx, hb, hr, hml, hown, hts, hlocks, hin⟩ := hC
  have hown : s.vm.findClass RX12 = some m.cls := hown
  have hl : lv_has ls 4 [(0, .ref h), (1, .int n1), (2, .int n2), (3, .int n3)] := hl
  refine lv_aload_n hx hb dX12_joined_0 rfl (lv_at hl 0 rfl) ?_
  refine lv_iload_n hx hb dX12_joined_1 rfl (lv_at hl 1 rfl) ?_
  refine lv_iload_n hx hb dX12_joined_2 rfl (lv_at hl 2 rfl) ?_
  refine eRi (va_runV (As := [.int n1, .int n2]) (rest := []) ⟨hx, hb, hml, hown, hts⟩ (c_X12_areTwo l D cI cB cZ cJ tx h q i n1 n2 h50 H.size) (zV hts k_1869 v_X12_areTwo ⟨Nat.le_of_ble_eq_true rfl, Nat.le_of_ble_eq_true rfl⟩) (pV (px1 hK hP 0 rfl) hK hP 0 rfl rfl) rfl rfl hl.1 rfl (lv_room (Nat.le_of_ble_eq_true rfl)) dX12_joined_3 ⟨Nat.le_of_ble_eq_true rfl, Nat.le_of_ble_eq_true rfl⟩) hP hS hA (fun r_1 H locs wr_1 hP hS => ?_)
  subst wr_1
  refine lv_if_eq (tgt := 21) hx hb dX12_joined_6 (by decide) (fun _ => ?_) (fun c => absurd c (by decide))
  refine lv_ldcw (v := (-1000000)) hx hb hown (hts _ k_1874) dX12_joined_21 ?_
  exact W.iret (v := (-1000000)) hx hb hr (fun t ht hW => ⟨⟨((-1000000) : Int32), (), rfl, (lf_X12_joined_2 h q i n1 n2 n3 h50), bx0⟩, hS.F ht⟩) hS.2.2 dX12_joined_24 hlocks

theorem lf_X12_off_2 (h : Nat) (q : Nat → Nat) (i : Nat → Int32) (n1 : Int32) (n2 : Int32) (n3 : Int32) (h50 : i 50 = 0) : ((-1) : Int32) = -1 := by
  first | rfl | (simp only [bi]; rw [if_pos (by grind)]; done) | (simp only [bi]; rw [if_neg (by grind)]; done) | grind
set_option maxHeartbeats 4000000 in
set_option maxRecDepth 100000 in
theorem c_X12_off (l : Launch) (D : va_G) (cI cB cZ cJ : ClassId) (tx : List (ClassId × FieldType)) (h : Nat) (q : Nat → Nat) (i : Nat → Int32) (n1 : Int32) (n2 : Int32) (n3 : Int32) (h50 : i 50 = 0) : WrI l D cI cB cZ cJ tx yX12_off cX12_off 6 (some .int) 3 0 0 [.ref h, .int n1, .int n2, .int n3] [(h, .inr (12, mG q i))] (fun (r : Int32) (_ : Unit) => r = -1) (fun _ => []) := by
  refine wri_of2 (by decide) (Nat.le_of_ble_eq_true rfl) ?_
  intro p e s m below meth c A ls H locs hC hK hP hD hA hS hl
  obtain ⟨hx, hb, hr, hml, hown, hts, hlocks, hin⟩ := hC
  have hown : s.vm.findClass RX12 = some m.cls := hown
  have hl : lv_has ls 6 [(0, .ref h), (1, .int n1), (2, .int n2), (3, .int n3)] := hl
  refine lv_aload_n hx hb dX12_off_0 rfl (lv_at hl 0 rfl) ?_
  refine lv_iload_n hx hb dX12_off_1 rfl (lv_at hl 1 rfl) ?_
  refine lv_iload_n hx hb dX12_off_2 rfl (lv_at hl 2 rfl) ?_
  refine eRi (va_runV (As := [.int n1, .int n2]) (rest := []) ⟨hx, hb, hml, hown, hts⟩ (c_X12_areTwo l D cI cB cZ cJ tx h q i n1 n2 h50 H.size) (zV hts k_1869 v_X12_areTwo ⟨Nat.le_of_ble_eq_true rfl, Nat.le_of_ble_eq_true rfl⟩) (pV (px1 hK hP 0 rfl) hK hP 0 rfl rfl) rfl rfl hl.1 rfl (lv_room (Nat.le_of_ble_eq_true rfl)) dX12_off_3 ⟨Nat.le_of_ble_eq_true rfl, Nat.le_of_ble_eq_true rfl⟩) hP hS hA (fun r_1 H locs wr_1 hP hS => ?_)
  subst wr_1
  refine lv_if_eq (tgt := 21) hx hb dX12_off_6 (by decide) (fun _ => ?_) (fun c => absurd c (by decide))
  refine lv_iconst (v := (-1)) hx hb dX12_off_21 (by decide) ?_
  exact W.iret (v := (-1)) hx hb hr (fun t ht hW => ⟨⟨((-1) : Int32), (), rfl, (lf_X12_off_2 h q i n1 n2 n3 h50), bx0⟩, hS.F ht⟩) hS.2.2 dX12_off_22 hlocks

theorem lf_X12_slipped_2 (h : Nat) (q : Nat → Nat) (i : Nat → Int32) (n1 : Int32) (n2 : Int32) (n3 : Int32) (n4 : Int32) (n5 : Int32) (n6 : Int32) (h50 : i 50 = 0) : ((-1) : Int32) = -1 := by
  first | rfl | (simp only [bi]; rw [if_pos (by grind)]; done) | (simp only [bi]; rw [if_neg (by grind)]; done) | grind
set_option maxHeartbeats 4000000 in
set_option maxRecDepth 100000 in
theorem c_X12_slipped (l : Launch) (D : va_G) (cI cB cZ cJ : ClassId) (tx : List (ClassId × FieldType)) (h : Nat) (q : Nat → Nat) (i : Nat → Int32) (n1 : Int32) (n2 : Int32) (n3 : Int32) (n4 : Int32) (n5 : Int32) (n6 : Int32) (h50 : i 50 = 0) : WrI l D cI cB cZ cJ tx yX12_slipped cX12_slipped 10 (some .int) 3 0 0 [.ref h, .int n1, .int n2, .int n3, .int n4, .int n5, .int n6] [(h, .inr (12, mG q i))] (fun (r : Int32) (_ : Unit) => r = -1) (fun _ => []) := by
  refine wri_of2 (by decide) (Nat.le_of_ble_eq_true rfl) ?_
  intro p e s m below meth c A ls H locs hC hK hP hD hA hS hl
  obtain ⟨hx, hb, hr, hml, hown, hts, hlocks, hin⟩ := hC
  have hown : s.vm.findClass RX12 = some m.cls := hown
  have hl : lv_has ls 10 [(0, .ref h), (1, .int n1), (2, .int n2), (3, .int n3), (4, .int n4), (5, .int n5), (6, .int n6)] := hl
  refine lv_aload_n hx hb dX12_slipped_0 rfl (lv_at hl 0 rfl) ?_
  refine lv_iload_n hx hb dX12_slipped_1 rfl (lv_at hl 1 rfl) ?_
  refine lv_iload_n hx hb dX12_slipped_2 rfl (lv_at hl 2 rfl) ?_
  refine eRi (va_runV (As := [.int n1, .int n2]) (rest := []) ⟨hx, hb, hml, hown, hts⟩ (c_X12_areTwo l D cI cB cZ cJ tx h q i n1 n2 h50 H.size) (zV hts k_1869 v_X12_areTwo ⟨Nat.le_of_ble_eq_true rfl, Nat.le_of_ble_eq_true rfl⟩) (pV (px1 hK hP 0 rfl) hK hP 0 rfl rfl) rfl rfl hl.1 rfl (lv_room (Nat.le_of_ble_eq_true rfl)) dX12_slipped_3 ⟨Nat.le_of_ble_eq_true rfl, Nat.le_of_ble_eq_true rfl⟩) hP hS hA (fun r_1 H locs wr_1 hP hS => ?_)
  subst wr_1
  refine lv_if_eq (tgt := 40) hx hb dX12_slipped_6 (by decide) (fun _ => ?_) (fun c => absurd c (by decide))
  refine lv_iconst (v := (-1)) hx hb dX12_slipped_40 (by decide) ?_
  exact W.iret (v := (-1)) hx hb hr (fun t ht hW => ⟨⟨((-1) : Int32), (), rfl, (lf_X12_slipped_2 h q i n1 n2 n3 n4 n5 n6 h50), bx0⟩, hS.F ht⟩) hS.2.2 dX12_slipped_41 hlocks

theorem lf_X12_span_2 (h : Nat) (q : Nat → Nat) (i : Nat → Int32) (n1 : Int32) (n2 : Int32) (n3 : Int32) (n4 : Int32) (h3 : i 3 = 0) : ((-10000) : Int32) = -10000 := by
  first | rfl | (simp only [bi]; rw [if_pos (by grind)]; done) | (simp only [bi]; rw [if_neg (by grind)]; done) | grind
set_option maxHeartbeats 4000000 in
set_option maxRecDepth 100000 in
theorem c_X12_span (l : Launch) (D : va_G) (cI cB cZ cJ : ClassId) (tx : List (ClassId × FieldType)) (h : Nat) (q : Nat → Nat) (i : Nat → Int32) (n1 : Int32) (n2 : Int32) (n3 : Int32) (n4 : Int32) (h3 : i 3 = 0) : WrI l D cI cB cZ cJ tx yX12_span cX12_span 5 (some .int) 2 0 0 [.ref h, .int n1, .int n2, .int n3, .int n4] [(h, .inr (12, mG q i))] (fun (r : Int32) (_ : Unit) => r = -10000) (fun _ => []) := by
  refine wri_of2 (by decide) (Nat.le_of_ble_eq_true rfl) ?_
  intro p e s m below meth c A ls H locs hC hK hP hD hA hS hl
  obtain ⟨hx, hb, hr, hml, hown, hts, hlocks, hin⟩ := hC
  have hown : s.vm.findClass RX12 = some m.cls := hown
  have hl : lv_has ls 5 [(0, .ref h), (1, .int n1), (2, .int n2), (3, .int n3), (4, .int n4)] := hl
  refine lv_aload_n hx hb dX12_span_0 rfl (lv_at hl 0 rfl) ?_
  refine lv_iload_n hx hb dX12_span_1 rfl (lv_at hl 1 rfl) ?_
  refine eRi (va_runV (As := [.int n1]) (rest := []) ⟨hx, hb, hml, hown, hts⟩ (c_X12_isStrake l D cI cB cZ cJ tx h q i n1 h3 H.size) (zV hts k_1807 v_X12_isStrake ⟨Nat.le_of_ble_eq_true rfl, Nat.le_of_ble_eq_true rfl⟩) (pV (px1 hK hP 0 rfl) hK hP 0 rfl rfl) rfl rfl hl.1 rfl (lv_room (Nat.le_of_ble_eq_true rfl)) dX12_span_2 ⟨Nat.le_of_ble_eq_true rfl, Nat.le_of_ble_eq_true rfl⟩) hP hS hA (fun r_1 H locs wr_1 hP hS => ?_)
  subst wr_1
  refine lv_if_eq (tgt := 43) hx hb dX12_span_5 (by decide) (fun _ => ?_) (fun c => absurd c (by decide))
  refine lv_sipush (v := (-10000)) hx hb dX12_span_43 (by decide) ?_
  exact W.iret (v := (-10000)) hx hb hr (fun t ht hW => ⟨⟨((-10000) : Int32), (), rfl, (lf_X12_span_2 h q i n1 n2 n3 n4 h3), bx0⟩, hS.F ht⟩) hS.2.2 dX12_span_46 hlocks

theorem lf_X12_batten_3 (h : Nat) (q : Nat → Nat) (i : Nat → Int32) (n1 : Int32) (n2 : Int32) (n3 : Int32) (h2 : i 2 = 0) (h3 : i 3 = 0) (c_1 : n3 = (-1)) : ((-1000000) : Int64) = -1000000 := by
  first | rfl | (simp only [bi]; rw [if_pos (by grind)]; done) | (simp only [bi]; rw [if_neg (by grind)]; done) | grind
theorem lf_X12_batten_5 (h : Nat) (q : Nat → Nat) (i : Nat → Int32) (n1 : Int32) (n2 : Int32) (n3 : Int32) (h2 : i 2 = 0) (h3 : i 3 = 0) (c_1 : ¬ n3 = (-1)) : ((-1000000) : Int64) = -1000000 := by
  first | rfl | (simp only [bi]; rw [if_pos (by grind)]; done) | (simp only [bi]; rw [if_neg (by grind)]; done) | grind
set_option maxHeartbeats 4000000 in
set_option maxRecDepth 100000 in
theorem c_X12_batten (l : Launch) (D : va_G) (cI cB cZ cJ : ClassId) (tx : List (ClassId × FieldType)) (h : Nat) (q : Nat → Nat) (i : Nat → Int32) (n1 : Int32) (n2 : Int32) (n3 : Int32) (h2 : i 2 = 0) (h3 : i 3 = 0) : WrL l D cI cB cZ cJ tx yX12_batten cX12_batten 4 (some .long) 3 0 0 [.ref h, .int n1, .int n2, .int n3] [(h, .inr (12, mG q i))] (fun (r : Int64) (_ : Unit) => r = -1000000) (fun _ => []) := by
  refine wrl_of2 (by decide) (Nat.le_of_ble_eq_true rfl) ?_
  intro p e s m below meth c A ls H locs hC hK hP hD hA hS hl
  obtain ⟨hx, hb, hr, hml, hown, hts, hlocks, hin⟩ := hC
  have hown : s.vm.findClass RX12 = some m.cls := hown
  have hl : lv_has ls 4 [(0, .ref h), (1, .int n1), (2, .int n2), (3, .int n3)] := hl
  refine lv_iload_n hx hb dX12_batten_0 rfl (lv_at hl 3 rfl) ?_
  refine lv_iconst (v := (-1)) hx hb dX12_batten_1 (by decide) ?_
  refine lv_icmp_eq (tgt := 13) hx hb dX12_batten_2 (by decide) (fun c_1 => ?_) (fun c_1 => ?_)
  · refine lv_aload_n hx hb dX12_batten_13 rfl (lv_at hl 0 rfl) ?_
    refine lv_iload_n hx hb dX12_batten_14 rfl (lv_at hl 1 rfl) ?_
    refine lv_iload_n hx hb dX12_batten_15 rfl (lv_at hl 2 rfl) ?_
    refine eRi (va_runV (As := [.int n1, .int n2]) (rest := []) ⟨hx, hb, hml, hown, hts⟩ (c_X12_isBent l D cI cB cZ cJ tx h q i n1 n2 h3 H.size) (zV hts k_1931 v_X12_isBent ⟨Nat.le_of_ble_eq_true rfl, Nat.le_of_ble_eq_true rfl⟩) (pV (px1 hK hP 0 rfl) hK hP 0 rfl rfl) rfl rfl hl.1 rfl (lv_room (Nat.le_of_ble_eq_true rfl)) dX12_batten_16 ⟨Nat.le_of_ble_eq_true rfl, Nat.le_of_ble_eq_true rfl⟩) hP hS hA (fun r_2 H locs wr_2 hP hS => ?_)
    subst wr_2
    refine lv_if_ne (tgt := 26) hx hb dX12_batten_19 (by decide) (fun c => absurd c (by decide)) (fun _ => ?_)
    refine lv_ldc2 (v := (-1000000)) hx hb hown (hts _ k_1956) dX12_batten_22 ?_
    exact W.lret (v := (-1000000)) hx hb hr (fun t ht hW => ⟨⟨((-1000000) : Int64), (), rfl, (lf_X12_batten_3 h q i n1 n2 n3 h2 h3 c_1), bx0⟩, hS.F ht⟩) hS.2.2 dX12_batten_25 hlocks
  · refine lv_aload_n hx hb dX12_batten_5 rfl (lv_at hl 0 rfl) ?_
    refine lv_iload_n hx hb dX12_batten_6 rfl (lv_at hl 3 rfl) ?_
    refine eRi (va_runV (As := [.int n3]) (rest := []) ⟨hx, hb, hml, hown, hts⟩ (c_X12_isStation l D cI cB cZ cJ tx h q i n3 h2 H.size) (zV hts k_1803 v_X12_isStation ⟨Nat.le_of_ble_eq_true rfl, Nat.le_of_ble_eq_true rfl⟩) (pV (px1 hK hP 0 rfl) hK hP 0 rfl rfl) rfl rfl hl.1 rfl (lv_room (Nat.le_of_ble_eq_true rfl)) dX12_batten_7 ⟨Nat.le_of_ble_eq_true rfl, Nat.le_of_ble_eq_true rfl⟩) hP hS hA (fun r_4 H locs wr_4 hP hS => ?_)
    subst wr_4
    refine lv_if_eq (tgt := 22) hx hb dX12_batten_10 (by decide) (fun _ => ?_) (fun c => absurd c (by decide))
    refine lv_ldc2 (v := (-1000000)) hx hb hown (hts _ k_1956) dX12_batten_22 ?_
    exact W.lret (v := (-1000000)) hx hb hr (fun t ht hW => ⟨⟨((-1000000) : Int64), (), rfl, (lf_X12_batten_5 h q i n1 n2 n3 h2 h3 c_1), bx0⟩, hS.F ht⟩) hS.2.2 dX12_batten_25 hlocks

theorem lf_X12_lost_3 (h : Nat) (q : Nat → Nat) (i : Nat → Int32) (n1 : Int32) (n2 : Int32) (n3 : Int32) (h3 : i 3 = 0) (c_2 : ¬ ((0 : Int32) ≤ n3 ∧ n3 ≤ 1)) : ((-1) : Int32) = -1 := by
  first | rfl | (simp only [bi]; rw [if_pos (by grind)]; done) | (simp only [bi]; rw [if_neg (by grind)]; done) | grind
theorem lf_X12_lost_5 (h : Nat) (q : Nat → Nat) (i : Nat → Int32) (n1 : Int32) (n2 : Int32) (n3 : Int32) (h3 : i 3 = 0) (c_2 : (0 : Int32) ≤ n3 ∧ n3 ≤ 1) : ((-1) : Int32) = -1 := by
  first | rfl | (simp only [bi]; rw [if_pos (by grind)]; done) | (simp only [bi]; rw [if_neg (by grind)]; done) | grind
set_option maxHeartbeats 4000000 in
set_option maxRecDepth 100000 in
theorem c_X12_lost (l : Launch) (D : va_G) (cI cB cZ cJ : ClassId) (tx : List (ClassId × FieldType)) (h : Nat) (q : Nat → Nat) (i : Nat → Int32) (n1 : Int32) (n2 : Int32) (n3 : Int32) (h3 : i 3 = 0) : WrI l D cI cB cZ cJ tx yX12_lost cX12_lost 7 (some .int) 3 0 0 [.ref h, .int n1, .int n2, .int n3] [(h, .inr (12, mG q i))] (fun (r : Int32) (_ : Unit) => r = -1) (fun _ => []) := by
  refine wri_of2 (by decide) (Nat.le_of_ble_eq_true rfl) ?_
  intro p e s m below meth c A ls H locs hC hK hP hD hA hS hl
  obtain ⟨hx, hb, hr, hml, hown, hts, hlocks, hin⟩ := hC
  have hown : s.vm.findClass RX12 = some m.cls := hown
  have hl : lv_has ls 7 [(0, .ref h), (1, .int n1), (2, .int n2), (3, .int n3)] := hl
  refine lv_iload_n hx hb dX12_lost_0 rfl (lv_at hl 3 rfl) ?_
  refine lv_i2l (v := n3.toInt64) hx hb dX12_lost_1 rfl ?_
  refine lv_lconst (v := 0) hx hb dX12_lost_2 (by decide) ?_
  refine lv_lconst (v := 1) hx hb dX12_lost_3 (by decide) ?_
  refine eRi (va_runS (As := [.long n3.toInt64, .long 0, .long 1]) (rest := []) ⟨hx, hb, hml, hown, hts⟩ (c_X12_isIn l D cI cB cZ cJ tx n3.toInt64 0 1 H.size) (zS hts k_1602 v_X12_isIn ⟨Nat.le_of_ble_eq_true rfl, Nat.le_of_ble_eq_true rfl⟩) (px0 hK) rfl rfl hl.1 rfl (lv_room (Nat.le_of_ble_eq_true rfl)) dX12_lost_4 ⟨Nat.le_of_ble_eq_true rfl, Nat.le_of_ble_eq_true rfl⟩) hP hS hA (fun r_1 H locs wr_1 hP hS => ?_)
  have wr_1 : r_1 = bi ((0 : Int32) ≤ n3 ∧ n3 ≤ 1) := isIn32 (lo := 0) (hi := 1) (by decide) (by decide) wr_1
  subst wr_1
  refine lv_bi_eq (tgt := 19) hx hb dX12_lost_7 (by decide) (fun c_2 => ?_) (fun c_2 => ?_)
  · refine lv_iconst (v := (-1)) hx hb dX12_lost_19 (by decide) ?_
    exact W.iret (v := (-1)) hx hb hr (fun t ht hW => ⟨⟨((-1) : Int32), (), rfl, (lf_X12_lost_3 h q i n1 n2 n3 h3 c_2), bx0⟩, hS.F ht⟩) hS.2.2 dX12_lost_20 hlocks
  · refine lv_aload_n hx hb dX12_lost_10 rfl (lv_at hl 0 rfl) ?_
    refine lv_iload_n hx hb dX12_lost_11 rfl (lv_at hl 1 rfl) ?_
    refine lv_iload_n hx hb dX12_lost_12 rfl (lv_at hl 2 rfl) ?_
    refine eRi (va_runV (As := [.int n1, .int n2]) (rest := []) ⟨hx, hb, hml, hown, hts⟩ (c_X12_isBent l D cI cB cZ cJ tx h q i n1 n2 h3 H.size) (zV hts k_1931 v_X12_isBent ⟨Nat.le_of_ble_eq_true rfl, Nat.le_of_ble_eq_true rfl⟩) (pV (px1 hK hP 0 rfl) hK hP 0 rfl rfl) rfl rfl hl.1 rfl (lv_room (Nat.le_of_ble_eq_true rfl)) dX12_lost_13 ⟨Nat.le_of_ble_eq_true rfl, Nat.le_of_ble_eq_true rfl⟩) hP hS hA (fun r_4 H locs wr_4 hP hS => ?_)
    subst wr_4
    refine lv_if_ne (tgt := 21) hx hb dX12_lost_16 (by decide) (fun c => absurd c (by decide)) (fun _ => ?_)
    refine lv_iconst (v := (-1)) hx hb dX12_lost_19 (by decide) ?_
    exact W.iret (v := (-1)) hx hb hr (fun t ht hW => ⟨⟨((-1) : Int32), (), rfl, (lf_X12_lost_5 h q i n1 n2 n3 h3 c_2), bx0⟩, hS.F ht⟩) hS.2.2 dX12_lost_20 hlocks

theorem lf_X12_size_2 (h : Nat) (q : Nat → Nat) (i : Nat → Int32) (n1 : Int32) (n2 : Int32) (n3 : Int32) (n4 : Int32) (h2 : i 2 = 0) : (0 : Int32) = 0 := by
  first | rfl | (simp only [bi]; rw [if_pos (by grind)]; done) | (simp only [bi]; rw [if_neg (by grind)]; done) | grind
set_option maxHeartbeats 4000000 in
set_option maxRecDepth 100000 in
theorem c_X12_size (l : Launch) (D : va_G) (cI cB cZ cJ : ClassId) (tx : List (ClassId × FieldType)) (h : Nat) (q : Nat → Nat) (i : Nat → Int32) (n1 : Int32) (n2 : Int32) (n3 : Int32) (n4 : Int32) (h2 : i 2 = 0) : WrI l D cI cB cZ cJ tx yX12_size cX12_size 7 (some .boolean) 3 0 0 [.ref h, .int n1, .int n2, .int n3, .int n4] [(h, .inr (12, mG q i))] (fun (r : Int32) (_ : Unit) => r = 0) (fun _ => []) := by
  refine wri_of2 (by decide) (Nat.le_of_ble_eq_true rfl) ?_
  intro p e s m below meth c A ls H locs hC hK hP hD hA hS hl
  obtain ⟨hx, hb, hr, hml, hown, hts, hlocks, hin⟩ := hC
  have hown : s.vm.findClass RX12 = some m.cls := hown
  have hl : lv_has ls 7 [(0, .ref h), (1, .int n1), (2, .int n2), (3, .int n3), (4, .int n4)] := hl
  refine lv_aload_n hx hb dX12_size_0 rfl (lv_at hl 0 rfl) ?_
  refine lv_iload_n hx hb dX12_size_1 rfl (lv_at hl 1 rfl) ?_
  refine lv_iload_n hx hb dX12_size_2 rfl (lv_at hl 2 rfl) ?_
  refine lv_iload_n hx hb dX12_size_3 rfl (lv_at hl 3 rfl) ?_
  refine eRi (va_runV (As := [.int n1, .int n2, .int n3]) (rest := []) ⟨hx, hb, hml, hown, hts⟩ (c_X12_isRivet l D cI cB cZ cJ tx h q i n1 n2 n3 h2 H.size) (zV hts k_1799 v_X12_isRivet ⟨Nat.le_of_ble_eq_true rfl, Nat.le_of_ble_eq_true rfl⟩) (pV (px1 hK hP 0 rfl) hK hP 0 rfl rfl) rfl rfl hl.1 rfl (lv_room (Nat.le_of_ble_eq_true rfl)) dX12_size_4 ⟨Nat.le_of_ble_eq_true rfl, Nat.le_of_ble_eq_true rfl⟩) hP hS hA (fun r_1 H locs wr_1 hP hS => ?_)
  subst wr_1
  refine lv_if_eq (tgt := 23) hx hb dX12_size_7 (by decide) (fun _ => ?_) (fun c => absurd c (by decide))
  refine lv_iconst (v := 0) hx hb dX12_size_23 (by decide) ?_
  exact W.zret (v := 0) hx hb hr (by decide) (fun t ht hW => ⟨⟨(0 : Int32), (), rfl, (lf_X12_size_2 h q i n1 n2 n3 n4 h2), bx0⟩, hS.F ht⟩) hS.2.2 dX12_size_24 hlocks

theorem lf_X12_repairs_2 (h : Nat) (q : Nat → Nat) (i : Nat → Int32) (n1 : Int32) (n2 : Int32) (n3 : Int32) (h3 : i 3 = 0) : ((-1) : Int64) = -1 := by
  first | rfl | (simp only [bi]; rw [if_pos (by grind)]; done) | (simp only [bi]; rw [if_neg (by grind)]; done) | grind
set_option maxHeartbeats 4000000 in
set_option maxRecDepth 100000 in
theorem c_X12_repairs (l : Launch) (D : va_G) (cI cB cZ cJ : ClassId) (tx : List (ClassId × FieldType)) (h : Nat) (q : Nat → Nat) (i : Nat → Int32) (n1 : Int32) (n2 : Int32) (n3 : Int32) (h3 : i 3 = 0) : WrL l D cI cB cZ cJ tx yX12_repairs cX12_repairs 14 (some .long) 2 0 0 [.ref h, .int n1, .int n2, .int n3] [(h, .inr (12, mG q i))] (fun (r : Int64) (_ : Unit) => r = -1) (fun _ => []) := by
  refine wrl_of2 (by decide) (Nat.le_of_ble_eq_true rfl) ?_
  intro p e s m below meth c A ls H locs hC hK hP hD hA hS hl
  obtain ⟨hx, hb, hr, hml, hown, hts, hlocks, hin⟩ := hC
  have hown : s.vm.findClass RX12 = some m.cls := hown
  have hl : lv_has ls 14 [(0, .ref h), (1, .int n1), (2, .int n2), (3, .int n3)] := hl
  refine lv_aload_n hx hb dX12_repairs_0 rfl (lv_at hl 0 rfl) ?_
  refine lv_iload_n hx hb dX12_repairs_1 rfl (lv_at hl 1 rfl) ?_
  refine eRi (va_runV (As := [.int n1]) (rest := []) ⟨hx, hb, hml, hown, hts⟩ (c_X12_isStrake l D cI cB cZ cJ tx h q i n1 h3 H.size) (zV hts k_1807 v_X12_isStrake ⟨Nat.le_of_ble_eq_true rfl, Nat.le_of_ble_eq_true rfl⟩) (pV (px1 hK hP 0 rfl) hK hP 0 rfl rfl) rfl rfl hl.1 rfl (lv_room (Nat.le_of_ble_eq_true rfl)) dX12_repairs_2 ⟨Nat.le_of_ble_eq_true rfl, Nat.le_of_ble_eq_true rfl⟩) hP hS hA (fun r_1 H locs wr_1 hP hS => ?_)
  subst wr_1
  refine lv_if_eq (tgt := 32) hx hb dX12_repairs_5 (by decide) (fun _ => ?_) (fun c => absurd c (by decide))
  refine lv_ldc2 (v := (-1)) hx hb hown (hts _ k_1950) dX12_repairs_32 ?_
  exact W.lret (v := (-1)) hx hb hr (fun t ht hW => ⟨⟨((-1) : Int64), (), rfl, (lf_X12_repairs_2 h q i n1 n2 n3 h3), bx0⟩, hS.F ht⟩) hS.2.2 dX12_repairs_35 hlocks

theorem lf_X12_thole_2 (h : Nat) (q : Nat → Nat) (i : Nat → Int32) (n1 : Int32) (n2 : Int32) (n3 : Int32) (h2 : i 2 = 0) : (0 : Int32) = 0 := by
  first | rfl | (simp only [bi]; rw [if_pos (by grind)]; done) | (simp only [bi]; rw [if_neg (by grind)]; done) | grind
set_option maxHeartbeats 4000000 in
set_option maxRecDepth 100000 in
theorem c_X12_thole (l : Launch) (D : va_G) (cI cB cZ cJ : ClassId) (tx : List (ClassId × FieldType)) (h : Nat) (q : Nat → Nat) (i : Nat → Int32) (n1 : Int32) (n2 : Int32) (n3 : Int32) (h2 : i 2 = 0) : WrI l D cI cB cZ cJ tx yX12_thole cX12_thole 4 (some .boolean) 2 0 0 [.ref h, .int n1, .int n2, .int n3] [(h, .inr (12, mG q i))] (fun (r : Int32) (_ : Unit) => r = 0) (fun _ => []) := by
  refine wri_of2 (by decide) (Nat.le_of_ble_eq_true rfl) ?_
  intro p e s m below meth c A ls H locs hC hK hP hD hA hS hl
  obtain ⟨hx, hb, hr, hml, hown, hts, hlocks, hin⟩ := hC
  have hown : s.vm.findClass RX12 = some m.cls := hown
  have hl : lv_has ls 4 [(0, .ref h), (1, .int n1), (2, .int n2), (3, .int n3)] := hl
  refine lv_aload_n hx hb dX12_thole_0 rfl (lv_at hl 0 rfl) ?_
  refine lv_iload_n hx hb dX12_thole_1 rfl (lv_at hl 1 rfl) ?_
  refine eRi (va_runV (As := [.int n1]) (rest := []) ⟨hx, hb, hml, hown, hts⟩ (c_X12_isStation l D cI cB cZ cJ tx h q i n1 h2 H.size) (zV hts k_1803 v_X12_isStation ⟨Nat.le_of_ble_eq_true rfl, Nat.le_of_ble_eq_true rfl⟩) (pV (px1 hK hP 0 rfl) hK hP 0 rfl rfl) rfl rfl hl.1 rfl (lv_room (Nat.le_of_ble_eq_true rfl)) dX12_thole_2 ⟨Nat.le_of_ble_eq_true rfl, Nat.le_of_ble_eq_true rfl⟩) hP hS hA (fun r_1 H locs wr_1 hP hS => ?_)
  subst wr_1
  refine lv_if_eq (tgt := 30) hx hb dX12_thole_5 (by decide) (fun _ => ?_) (fun c => absurd c (by decide))
  refine lv_iconst (v := 0) hx hb dX12_thole_30 (by decide) ?_
  exact W.zret (v := 0) hx hb hr (by decide) (fun t ht hW => ⟨⟨(0 : Int32), (), rfl, (lf_X12_thole_2 h q i n1 n2 n3 h2), bx0⟩, hS.F ht⟩) hS.2.2 dX12_thole_31 hlocks

theorem lf_X12_oars_1 (h : Nat) (q : Nat → Nat) (i : Nat → Int32) (n1 : Int32) (h2 : i 2 = 0) : ((-1) : Int32) = -1 := by
  first | rfl | (simp only [bi]; rw [if_pos (by grind)]; done) | (simp only [bi]; rw [if_neg (by grind)]; done) | grind
set_option maxHeartbeats 4000000 in
set_option maxRecDepth 100000 in
theorem c_X12_oars (l : Launch) (D : va_G) (cI cB cZ cJ : ClassId) (tx : List (ClassId × FieldType)) (h : Nat) (q : Nat → Nat) (i : Nat → Int32) (n1 : Int32) (h2 : i 2 = 0) : WrI l D cI cB cZ cJ tx yX12_oars cX12_oars 5 (some .int) 1 0 0 [.ref h, .int n1] [(h, .inr (12, mG q i))] (fun (r : Int32) (_ : Unit) => r = -1) (fun _ => []) := by
  refine wri_of2 (by decide) (Nat.le_of_ble_eq_true rfl) ?_
  intro p e s m below meth c A ls H locs hC hK hP hD hA hS hl
  obtain ⟨hx, hb, hr, hml, hown, hts, hlocks, hin⟩ := hC
  have hown : s.vm.findClass RX12 = some m.cls := hown
  have hl : lv_has ls 5 [(0, .ref h), (1, .int n1)] := hl
  refine lv_aload_n hx hb dX12_oars_0 rfl (lv_at hl 0 rfl) ?_
  refine va_get (D := D) (ci := 12) (v := .int (i 2)) (C := RX12) (T := TX12) (N := 81) hx hb hts inT_X12 hown hK.1 hP 0 rfl rfl 2 (by decide) (hts _ k_1355) (fun _ h9 => h9) rfl dX12_oars_1 ?_
  refine lv_topv (y := 0) h2 ?_
  refine lv_if_eq (tgt := 19) hx hb dX12_oars_4 (by decide) (fun _ => ?_) (fun c => absurd c (by decide))
  refine lv_iconst (v := (-1)) hx hb dX12_oars_19 (by decide) ?_
  exact W.iret (v := (-1)) hx hb hr (fun t ht hW => ⟨⟨((-1) : Int32), (), rfl, (lf_X12_oars_1 h q i n1 h2), bx0⟩, hS.F ht⟩) hS.2.2 dX12_oars_20 hlocks

theorem lf_X12_pair_2 (h : Nat) (q : Nat → Nat) (i : Nat → Int32) (n1 : Int32) (n2 : Int32) (h2 : i 2 = 0) : ((-1) : Int64) = -1 := by
  first | rfl | (simp only [bi]; rw [if_pos (by grind)]; done) | (simp only [bi]; rw [if_neg (by grind)]; done) | grind
set_option maxHeartbeats 4000000 in
set_option maxRecDepth 100000 in
theorem c_X12_pair (l : Launch) (D : va_G) (cI cB cZ cJ : ClassId) (tx : List (ClassId × FieldType)) (h : Nat) (q : Nat → Nat) (i : Nat → Int32) (n1 : Int32) (n2 : Int32) (h2 : i 2 = 0) : WrL l D cI cB cZ cJ tx yX12_pair cX12_pair 11 (some .long) 2 0 0 [.ref h, .int n1, .int n2] [(h, .inr (12, mG q i))] (fun (r : Int64) (_ : Unit) => r = -1) (fun _ => []) := by
  refine wrl_of2 (by decide) (Nat.le_of_ble_eq_true rfl) ?_
  intro p e s m below meth c A ls H locs hC hK hP hD hA hS hl
  obtain ⟨hx, hb, hr, hml, hown, hts, hlocks, hin⟩ := hC
  have hown : s.vm.findClass RX12 = some m.cls := hown
  have hl : lv_has ls 11 [(0, .ref h), (1, .int n1), (2, .int n2)] := hl
  refine lv_aload_n hx hb dX12_pair_0 rfl (lv_at hl 0 rfl) ?_
  refine lv_iload_n hx hb dX12_pair_1 rfl (lv_at hl 1 rfl) ?_
  refine eRi (va_runV (As := [.int n1]) (rest := []) ⟨hx, hb, hml, hown, hts⟩ (c_X12_isStation l D cI cB cZ cJ tx h q i n1 h2 H.size) (zV hts k_1803 v_X12_isStation ⟨Nat.le_of_ble_eq_true rfl, Nat.le_of_ble_eq_true rfl⟩) (pV (px1 hK hP 0 rfl) hK hP 0 rfl rfl) rfl rfl hl.1 rfl (lv_room (Nat.le_of_ble_eq_true rfl)) dX12_pair_2 ⟨Nat.le_of_ble_eq_true rfl, Nat.le_of_ble_eq_true rfl⟩) hP hS hA (fun r_1 H locs wr_1 hP hS => ?_)
  subst wr_1
  refine lv_if_eq (tgt := 18) hx hb dX12_pair_5 (by decide) (fun _ => ?_) (fun c => absurd c (by decide))
  refine lv_ldc2 (v := (-1)) hx hb hown (hts _ k_1950) dX12_pair_18 ?_
  exact W.lret (v := (-1)) hx hb hr (fun t ht hW => ⟨⟨((-1) : Int64), (), rfl, (lf_X12_pair_2 h q i n1 n2 h2), bx0⟩, hS.F ht⟩) hS.2.2 dX12_pair_21 hlocks

theorem lf_X12_phosphor_3 (h : Nat) (q : Nat → Nat) (i : Nat → Int32) (n1 : Int32) (n2 : Int32) (n3 : Int32) (c_2 : ¬ ((0 : Int32) ≤ n1 ∧ n1 ≤ 11)) : (0 : Int32) = bi ((0 ≤ n1 ∧ n1 ≤ 11) ∧ (0 ≤ n2 ∧ n2 ≤ 5) ∧ 0 ≤ n3 ∧ n3 ≤ 999) := by
  first | rfl | (simp only [bi]; rw [if_pos (by grind)]; done) | (simp only [bi]; rw [if_neg (by grind)]; done) | grind
theorem lf_X12_phosphor_6 (h : Nat) (q : Nat → Nat) (i : Nat → Int32) (n1 : Int32) (n2 : Int32) (n3 : Int32) (c_2 : (0 : Int32) ≤ n1 ∧ n1 ≤ 11) (c_5 : ¬ ((0 : Int32) ≤ n2 ∧ n2 ≤ 5)) : (0 : Int32) = bi ((0 ≤ n1 ∧ n1 ≤ 11) ∧ (0 ≤ n2 ∧ n2 ≤ 5) ∧ 0 ≤ n3 ∧ n3 ≤ 999) := by
  first | rfl | (simp only [bi]; rw [if_pos (by grind)]; done) | (simp only [bi]; rw [if_neg (by grind)]; done) | grind
theorem lf_X12_phosphor_11 (h : Nat) (q : Nat → Nat) (i : Nat → Int32) (n1 : Int32) (n2 : Int32) (n3 : Int32) (c_2 : (0 : Int32) ≤ n1 ∧ n1 ≤ 11) (c_5 : (0 : Int32) ≤ n2 ∧ n2 ≤ 5) (c_8 : (0 : Int32) ≤ n3 ∧ n3 ≤ 999) (x_9 : Int32) (ex_9 : x_9 = 12 * n2) (x_10 : Int32) (ex_10 : x_10 = x_9 + n1) : vp_in x_10 72 := by
  first | (unfold vp_in; decide) | (subst_vars; exact vp_in3 (x := n2) (y := n1) (X := 5) (Y := 11) 11 5 12 72 (by decide) (by decide) rfl rfl rfl (by assumption) (by assumption))
theorem lf_X12_phosphor_13 (h : Nat) (q : Nat → Nat) (i : Nat → Int32) (n1 : Int32) (n2 : Int32) (n3 : Int32) (c_2 : (0 : Int32) ≤ n1 ∧ n1 ≤ 11) (c_5 : (0 : Int32) ≤ n2 ∧ n2 ≤ 5) (c_8 : (0 : Int32) ≤ n3 ∧ n3 ≤ 999) (x_9 : Int32) (ex_9 : x_9 = 12 * n2) (x_10 : Int32) (ex_10 : x_10 = x_9 + n1) : (1 : Int32) = bi ((0 ≤ n1 ∧ n1 ≤ 11) ∧ (0 ≤ n2 ∧ n2 ≤ 5) ∧ 0 ≤ n3 ∧ n3 ≤ 999) := by
  first | rfl | (simp only [bi]; rw [if_pos (by grind)]; done) | (simp only [bi]; rw [if_neg (by grind)]; done) | grind
theorem lf_X12_phosphor_14 (h : Nat) (q : Nat → Nat) (i : Nat → Int32) (n1 : Int32) (n2 : Int32) (n3 : Int32) (c_2 : (0 : Int32) ≤ n1 ∧ n1 ≤ 11) (c_5 : (0 : Int32) ≤ n2 ∧ n2 ≤ 5) (c_8 : ¬ ((0 : Int32) ≤ n3 ∧ n3 ≤ 999)) : (0 : Int32) = bi ((0 ≤ n1 ∧ n1 ≤ 11) ∧ (0 ≤ n2 ∧ n2 ≤ 5) ∧ 0 ≤ n3 ∧ n3 ≤ 999) := by
  first | rfl | (simp only [bi]; rw [if_pos (by grind)]; done) | (simp only [bi]; rw [if_neg (by grind)]; done) | grind
set_option maxHeartbeats 4000000 in
set_option maxRecDepth 100000 in
theorem c_X12_phosphor (l : Launch) (D : va_G) (cI cB cZ cJ : ClassId) (tx : List (ClassId × FieldType)) (h : Nat) (q : Nat → Nat) (i : Nat → Int32) (n1 : Int32) (n2 : Int32) (n3 : Int32) : WrI l D cI cB cZ cJ tx yX12_phosphor cX12_phosphor 4 (some .boolean) 1 0 0 [.ref h, .int n1, .int n2, .int n3] [(h, .inr (12, mG q i)), (q 74, .inl (cI, 72, .inl (fun _ => 0)))] (fun (r : Int32) (_ : Unit) => r = bi ((0 ≤ n1 ∧ n1 ≤ 11) ∧ (0 ≤ n2 ∧ n2 ≤ 5) ∧ 0 ≤ n3 ∧ n3 ≤ 999)) (fun _ => []) := by
  refine wri_of2 (by decide) (Nat.le_of_ble_eq_true rfl) ?_
  intro p e s m below meth c A ls H locs hC hK hP hD hA hS hl
  obtain ⟨hx, hb, hr, hml, hown, hts, hlocks, hin⟩ := hC
  have hown : s.vm.findClass RX12 = some m.cls := hown
  have hl : lv_has ls 4 [(0, .ref h), (1, .int n1), (2, .int n2), (3, .int n3)] := hl
  refine lv_iload_n hx hb dX12_phosphor_0 rfl (lv_at hl 1 rfl) ?_
  refine lv_i2l (v := n1.toInt64) hx hb dX12_phosphor_1 rfl ?_
  refine lv_lconst (v := 0) hx hb dX12_phosphor_2 (by decide) ?_
  refine lv_ldc2 (v := 11) hx hb hown (hts _ k_2009) dX12_phosphor_3 ?_
  refine eRi (va_runS (As := [.long n1.toInt64, .long 0, .long 11]) (rest := []) ⟨hx, hb, hml, hown, hts⟩ (c_X12_isIn l D cI cB cZ cJ tx n1.toInt64 0 11 H.size) (zS hts k_1602 v_X12_isIn ⟨Nat.le_of_ble_eq_true rfl, Nat.le_of_ble_eq_true rfl⟩) (px0 hK) rfl rfl hl.1 rfl (lv_room (Nat.le_of_ble_eq_true rfl)) dX12_phosphor_6 ⟨Nat.le_of_ble_eq_true rfl, Nat.le_of_ble_eq_true rfl⟩) hP hS hA (fun r_1 H locs wr_1 hP hS => ?_)
  have wr_1 : r_1 = bi ((0 : Int32) ≤ n1 ∧ n1 ≤ 11) := isIn32 (lo := 0) (hi := 11) (by decide) (by decide) wr_1
  subst wr_1
  refine lv_bi_eq (tgt := 36) hx hb dX12_phosphor_9 (by decide) (fun c_2 => ?_) (fun c_2 => ?_)
  · refine lv_iconst (v := 0) hx hb dX12_phosphor_36 (by decide) ?_
    exact W.zret (v := 0) hx hb hr (by decide) (fun t ht hW => ⟨⟨(0 : Int32), (), rfl, (lf_X12_phosphor_3 h q i n1 n2 n3 c_2), bx0⟩, hS.F ht⟩) hS.2.2 dX12_phosphor_37 hlocks
  · refine lv_iload_n hx hb dX12_phosphor_12 rfl (lv_at hl 2 rfl) ?_
    refine lv_i2l (v := n2.toInt64) hx hb dX12_phosphor_13 rfl ?_
    refine lv_lconst (v := 0) hx hb dX12_phosphor_14 (by decide) ?_
    refine lv_ldc2 (v := 5) hx hb hown (hts _ k_2010) dX12_phosphor_15 ?_
    refine eRi (va_runS (As := [.long n2.toInt64, .long 0, .long 5]) (rest := []) ⟨hx, hb, hml, hown, hts⟩ (c_X12_isIn l D cI cB cZ cJ tx n2.toInt64 0 5 H.size) (zS hts k_1602 v_X12_isIn ⟨Nat.le_of_ble_eq_true rfl, Nat.le_of_ble_eq_true rfl⟩) (px0 hK) rfl rfl hl.1 rfl (lv_room (Nat.le_of_ble_eq_true rfl)) dX12_phosphor_18 ⟨Nat.le_of_ble_eq_true rfl, Nat.le_of_ble_eq_true rfl⟩) hP hS hA (fun r_4 H locs wr_4 hP hS => ?_)
    have wr_4 : r_4 = bi ((0 : Int32) ≤ n2 ∧ n2 ≤ 5) := isIn32 (lo := 0) (hi := 5) (by decide) (by decide) wr_4
    subst wr_4
    refine lv_bi_eq (tgt := 36) hx hb dX12_phosphor_21 (by decide) (fun c_5 => ?_) (fun c_5 => ?_)
    · refine lv_iconst (v := 0) hx hb dX12_phosphor_36 (by decide) ?_
      exact W.zret (v := 0) hx hb hr (by decide) (fun t ht hW => ⟨⟨(0 : Int32), (), rfl, (lf_X12_phosphor_6 h q i n1 n2 n3 c_2 c_5), bx0⟩, hS.F ht⟩) hS.2.2 dX12_phosphor_37 hlocks
    · refine lv_iload_n hx hb dX12_phosphor_24 rfl (lv_at hl 3 rfl) ?_
      refine lv_i2l (v := n3.toInt64) hx hb dX12_phosphor_25 rfl ?_
      refine lv_lconst (v := 0) hx hb dX12_phosphor_26 (by decide) ?_
      refine lv_ldc2 (v := 999) hx hb hown (hts _ k_2011) dX12_phosphor_27 ?_
      refine eRi (va_runS (As := [.long n3.toInt64, .long 0, .long 999]) (rest := []) ⟨hx, hb, hml, hown, hts⟩ (c_X12_isIn l D cI cB cZ cJ tx n3.toInt64 0 999 H.size) (zS hts k_1602 v_X12_isIn ⟨Nat.le_of_ble_eq_true rfl, Nat.le_of_ble_eq_true rfl⟩) (px0 hK) rfl rfl hl.1 rfl (lv_room (Nat.le_of_ble_eq_true rfl)) dX12_phosphor_30 ⟨Nat.le_of_ble_eq_true rfl, Nat.le_of_ble_eq_true rfl⟩) hP hS hA (fun r_7 H locs wr_7 hP hS => ?_)
      have wr_7 : r_7 = bi ((0 : Int32) ≤ n3 ∧ n3 ≤ 999) := isIn32 (lo := 0) (hi := 999) (by decide) (by decide) wr_7
      subst wr_7
      refine lv_bi_ne (tgt := 38) hx hb dX12_phosphor_33 (by decide) (fun c_8 => ?_) (fun c_8 => ?_)
      · refine lv_aload_n hx hb dX12_phosphor_38 rfl (lv_at hl 0 rfl) ?_
        refine va_get (D := D) (ci := 12) (v := .ref (q 74)) (C := RX12) (T := TX12) (N := 81) hx hb hts inT_X12 hown hK.1 hP 0 rfl rfl 74 (by decide) (hts _ k_1427) (fun _ h9 => h9) rfl dX12_phosphor_39 ?_
        refine lv_bipush (v := 12) hx hb dX12_phosphor_42 (by decide) ?_
        refine lv_iload_n hx hb dX12_phosphor_44 rfl (lv_at hl 2 rfl) ?_
        refine lv_imul hx hb dX12_phosphor_45 ?_
        refine lv_topi (fun x_9 ex_9 => ?_)
        refine lv_iload_n hx hb dX12_phosphor_46 rfl (lv_at hl 1 rfl) ?_
        refine lv_iadd hx hb dX12_phosphor_47 ?_
        refine lv_topi (fun x_10 ex_10 => ?_)
        refine lv_iload_n hx hb dX12_phosphor_48 rfl (lv_at hl 3 rfl) ?_
        refine st_i hx hb hK hP hD hS 1 rfl (lf_X12_phosphor_11 h q i n1 n2 n3 c_2 c_5 c_8 x_9 ex_9 x_10 ex_10) dX12_phosphor_49 (fun f_12 H locs hP hD hS => ?_)
        have hP : va_P D vwCl [(h, .inr (12, mG q i)), (q 74, .inl (cI, 72, .inl f_12))] H := hP
        have hD : va_D A [(h, .inr (12, mG q i)), (q 74, .inl (cI, 72, .inl f_12))] := hD
        refine lv_iconst (v := 1) hx hb dX12_phosphor_50 (by decide) ?_
        exact W.zret (v := 1) hx hb hr (by decide) (fun t ht hW => ⟨⟨(1 : Int32), (), rfl, (lf_X12_phosphor_13 h q i n1 n2 n3 c_2 c_5 c_8 x_9 ex_9 x_10 ex_10), bx0⟩, hS.F ht⟩) hS.2.2 dX12_phosphor_51 hlocks
      · refine lv_iconst (v := 0) hx hb dX12_phosphor_36 (by decide) ?_
        exact W.zret (v := 0) hx hb hr (by decide) (fun t ht hW => ⟨⟨(0 : Int32), (), rfl, (lf_X12_phosphor_14 h q i n1 n2 n3 c_2 c_5 c_8), bx0⟩, hS.F ht⟩) hS.2.2 dX12_phosphor_37 hlocks

theorem lf_X12_story_3 (h : Nat) (q : Nat → Nat) (i : Nat → Int32) (n1 : Int32) (n2 : Int32) (n3 : Int32) (c_2 : ¬ ((0 : Int32) ≤ n1 ∧ n1 ≤ 5)) : (0 : Int32) = bi ((0 ≤ n1 ∧ n1 ≤ 5) ∧ (0 ≤ n2 ∧ n2 ≤ 5) ∧ 0 ≤ n3 ∧ n3 ≤ 1000) := by
  first | rfl | (simp only [bi]; rw [if_pos (by grind)]; done) | (simp only [bi]; rw [if_neg (by grind)]; done) | grind
theorem lf_X12_story_6 (h : Nat) (q : Nat → Nat) (i : Nat → Int32) (n1 : Int32) (n2 : Int32) (n3 : Int32) (c_2 : (0 : Int32) ≤ n1 ∧ n1 ≤ 5) (c_5 : ¬ ((0 : Int32) ≤ n2 ∧ n2 ≤ 5)) : (0 : Int32) = bi ((0 ≤ n1 ∧ n1 ≤ 5) ∧ (0 ≤ n2 ∧ n2 ≤ 5) ∧ 0 ≤ n3 ∧ n3 ≤ 1000) := by
  first | rfl | (simp only [bi]; rw [if_pos (by grind)]; done) | (simp only [bi]; rw [if_neg (by grind)]; done) | grind
theorem lf_X12_story_11 (h : Nat) (q : Nat → Nat) (i : Nat → Int32) (n1 : Int32) (n2 : Int32) (n3 : Int32) (c_2 : (0 : Int32) ≤ n1 ∧ n1 ≤ 5) (c_5 : (0 : Int32) ≤ n2 ∧ n2 ≤ 5) (c_8 : (0 : Int32) ≤ n3 ∧ n3 ≤ 1000) (x_9 : Int32) (ex_9 : x_9 = 6 * n1) (x_10 : Int32) (ex_10 : x_10 = x_9 + n2) : vp_in x_10 36 := by
  subst_vars; exact vp_in3 (x := n1) (y := n2) (X := 5) (Y := 5) 5 5 6 36 (by decide) (by decide) rfl rfl rfl (by assumption) (by assumption)
theorem lf_X12_story_13 (h : Nat) (q : Nat → Nat) (i : Nat → Int32) (n1 : Int32) (n2 : Int32) (n3 : Int32) (c_2 : (0 : Int32) ≤ n1 ∧ n1 ≤ 5) (c_5 : (0 : Int32) ≤ n2 ∧ n2 ≤ 5) (c_8 : (0 : Int32) ≤ n3 ∧ n3 ≤ 1000) (x_9 : Int32) (ex_9 : x_9 = 6 * n1) (x_10 : Int32) (ex_10 : x_10 = x_9 + n2) : vp_in n1 6 := by
  exact vp_in1 (x := n1) (M := 5) 6 (by decide) rfl (by assumption)
theorem lf_X12_story_15 (h : Nat) (q : Nat → Nat) (i : Nat → Int32) (n1 : Int32) (n2 : Int32) (n3 : Int32) (c_2 : (0 : Int32) ≤ n1 ∧ n1 ≤ 5) (c_5 : (0 : Int32) ≤ n2 ∧ n2 ≤ 5) (c_8 : (0 : Int32) ≤ n3 ∧ n3 ≤ 1000) (x_9 : Int32) (ex_9 : x_9 = 6 * n1) (x_10 : Int32) (ex_10 : x_10 = x_9 + n2) : (1 : Int32) = bi ((0 ≤ n1 ∧ n1 ≤ 5) ∧ (0 ≤ n2 ∧ n2 ≤ 5) ∧ 0 ≤ n3 ∧ n3 ≤ 1000) := by
  first | rfl | (simp only [bi]; rw [if_pos (by grind)]; done) | (simp only [bi]; rw [if_neg (by grind)]; done) | grind
theorem lf_X12_story_16 (h : Nat) (q : Nat → Nat) (i : Nat → Int32) (n1 : Int32) (n2 : Int32) (n3 : Int32) (c_2 : (0 : Int32) ≤ n1 ∧ n1 ≤ 5) (c_5 : (0 : Int32) ≤ n2 ∧ n2 ≤ 5) (c_8 : ¬ ((0 : Int32) ≤ n3 ∧ n3 ≤ 1000)) : (0 : Int32) = bi ((0 ≤ n1 ∧ n1 ≤ 5) ∧ (0 ≤ n2 ∧ n2 ≤ 5) ∧ 0 ≤ n3 ∧ n3 ≤ 1000) := by
  first | rfl | (simp only [bi]; rw [if_pos (by grind)]; done) | (simp only [bi]; rw [if_neg (by grind)]; done) | grind
set_option maxHeartbeats 4000000 in
set_option maxRecDepth 100000 in
theorem c_X12_story (l : Launch) (D : va_G) (cI cB cZ cJ : ClassId) (tx : List (ClassId × FieldType)) (h : Nat) (q : Nat → Nat) (i : Nat → Int32) (n1 : Int32) (n2 : Int32) (n3 : Int32) : WrI l D cI cB cZ cJ tx yX12_story cX12_story 4 (some .boolean) 1 0 0 [.ref h, .int n1, .int n2, .int n3] [(h, .inr (12, mG q i)), (q 75, .inl (cI, 36, .inl (fun _ => 0))), (q 76, .inl (cZ, 6, .inl (fun _ => 0)))] (fun (r : Int32) (_ : Unit) => r = bi ((0 ≤ n1 ∧ n1 ≤ 5) ∧ (0 ≤ n2 ∧ n2 ≤ 5) ∧ 0 ≤ n3 ∧ n3 ≤ 1000)) (fun _ => []) := by
  refine wri_of2 (by decide) (Nat.le_of_ble_eq_true rfl) ?_
  intro p e s m below meth c A ls H locs hC hK hP hD hA hS hl
  obtain ⟨hx, hb, hr, hml, hown, hts, hlocks, hin⟩ := hC
  have hown : s.vm.findClass RX12 = some m.cls := hown
  have hl : lv_has ls 4 [(0, .ref h), (1, .int n1), (2, .int n2), (3, .int n3)] := hl
  refine lv_iload_n hx hb dX12_story_0 rfl (lv_at hl 1 rfl) ?_
  refine lv_i2l (v := n1.toInt64) hx hb dX12_story_1 rfl ?_
  refine lv_lconst (v := 0) hx hb dX12_story_2 (by decide) ?_
  refine lv_ldc2 (v := 5) hx hb hown (hts _ k_2010) dX12_story_3 ?_
  refine eRi (va_runS (As := [.long n1.toInt64, .long 0, .long 5]) (rest := []) ⟨hx, hb, hml, hown, hts⟩ (c_X12_isIn l D cI cB cZ cJ tx n1.toInt64 0 5 H.size) (zS hts k_1602 v_X12_isIn ⟨Nat.le_of_ble_eq_true rfl, Nat.le_of_ble_eq_true rfl⟩) (px0 hK) rfl rfl hl.1 rfl (lv_room (Nat.le_of_ble_eq_true rfl)) dX12_story_6 ⟨Nat.le_of_ble_eq_true rfl, Nat.le_of_ble_eq_true rfl⟩) hP hS hA (fun r_1 H locs wr_1 hP hS => ?_)
  have wr_1 : r_1 = bi ((0 : Int32) ≤ n1 ∧ n1 ≤ 5) := isIn32 (lo := 0) (hi := 5) (by decide) (by decide) wr_1
  subst wr_1
  refine lv_bi_eq (tgt := 36) hx hb dX12_story_9 (by decide) (fun c_2 => ?_) (fun c_2 => ?_)
  · refine lv_iconst (v := 0) hx hb dX12_story_36 (by decide) ?_
    exact W.zret (v := 0) hx hb hr (by decide) (fun t ht hW => ⟨⟨(0 : Int32), (), rfl, (lf_X12_story_3 h q i n1 n2 n3 c_2), bx0⟩, hS.F ht⟩) hS.2.2 dX12_story_37 hlocks
  · refine lv_iload_n hx hb dX12_story_12 rfl (lv_at hl 2 rfl) ?_
    refine lv_i2l (v := n2.toInt64) hx hb dX12_story_13 rfl ?_
    refine lv_lconst (v := 0) hx hb dX12_story_14 (by decide) ?_
    refine lv_ldc2 (v := 5) hx hb hown (hts _ k_2010) dX12_story_15 ?_
    refine eRi (va_runS (As := [.long n2.toInt64, .long 0, .long 5]) (rest := []) ⟨hx, hb, hml, hown, hts⟩ (c_X12_isIn l D cI cB cZ cJ tx n2.toInt64 0 5 H.size) (zS hts k_1602 v_X12_isIn ⟨Nat.le_of_ble_eq_true rfl, Nat.le_of_ble_eq_true rfl⟩) (px0 hK) rfl rfl hl.1 rfl (lv_room (Nat.le_of_ble_eq_true rfl)) dX12_story_18 ⟨Nat.le_of_ble_eq_true rfl, Nat.le_of_ble_eq_true rfl⟩) hP hS hA (fun r_4 H locs wr_4 hP hS => ?_)
    have wr_4 : r_4 = bi ((0 : Int32) ≤ n2 ∧ n2 ≤ 5) := isIn32 (lo := 0) (hi := 5) (by decide) (by decide) wr_4
    subst wr_4
    refine lv_bi_eq (tgt := 36) hx hb dX12_story_21 (by decide) (fun c_5 => ?_) (fun c_5 => ?_)
    · refine lv_iconst (v := 0) hx hb dX12_story_36 (by decide) ?_
      exact W.zret (v := 0) hx hb hr (by decide) (fun t ht hW => ⟨⟨(0 : Int32), (), rfl, (lf_X12_story_6 h q i n1 n2 n3 c_2 c_5), bx0⟩, hS.F ht⟩) hS.2.2 dX12_story_37 hlocks
    · refine lv_iload_n hx hb dX12_story_24 rfl (lv_at hl 3 rfl) ?_
      refine lv_i2l (v := n3.toInt64) hx hb dX12_story_25 rfl ?_
      refine lv_lconst (v := 0) hx hb dX12_story_26 (by decide) ?_
      refine lv_ldc2 (v := 1000) hx hb hown (hts _ k_1601) dX12_story_27 ?_
      refine eRi (va_runS (As := [.long n3.toInt64, .long 0, .long 1000]) (rest := []) ⟨hx, hb, hml, hown, hts⟩ (c_X12_isIn l D cI cB cZ cJ tx n3.toInt64 0 1000 H.size) (zS hts k_1602 v_X12_isIn ⟨Nat.le_of_ble_eq_true rfl, Nat.le_of_ble_eq_true rfl⟩) (px0 hK) rfl rfl hl.1 rfl (lv_room (Nat.le_of_ble_eq_true rfl)) dX12_story_30 ⟨Nat.le_of_ble_eq_true rfl, Nat.le_of_ble_eq_true rfl⟩) hP hS hA (fun r_7 H locs wr_7 hP hS => ?_)
      have wr_7 : r_7 = bi ((0 : Int32) ≤ n3 ∧ n3 ≤ 1000) := isIn32 (lo := 0) (hi := 1000) (by decide) (by decide) wr_7
      subst wr_7
      refine lv_bi_ne (tgt := 38) hx hb dX12_story_33 (by decide) (fun c_8 => ?_) (fun c_8 => ?_)
      · refine lv_aload_n hx hb dX12_story_38 rfl (lv_at hl 0 rfl) ?_
        refine va_get (D := D) (ci := 12) (v := .ref (q 75)) (C := RX12) (T := TX12) (N := 81) hx hb hts inT_X12 hown hK.1 hP 0 rfl rfl 75 (by decide) (hts _ k_1428) (fun _ h9 => h9) rfl dX12_story_39 ?_
        refine lv_bipush (v := 6) hx hb dX12_story_42 (by decide) ?_
        refine lv_iload_n hx hb dX12_story_44 rfl (lv_at hl 1 rfl) ?_
        refine lv_imul hx hb dX12_story_45 ?_
        refine lv_topi (fun x_9 ex_9 => ?_)
        refine lv_iload_n hx hb dX12_story_46 rfl (lv_at hl 2 rfl) ?_
        refine lv_iadd hx hb dX12_story_47 ?_
        refine lv_topi (fun x_10 ex_10 => ?_)
        refine lv_iload_n hx hb dX12_story_48 rfl (lv_at hl 3 rfl) ?_
        refine st_i hx hb hK hP hD hS 1 rfl (lf_X12_story_11 h q i n1 n2 n3 c_2 c_5 c_8 x_9 ex_9 x_10 ex_10) dX12_story_49 (fun f_12 H locs hP hD hS => ?_)
        have hP : va_P D vwCl [(h, .inr (12, mG q i)), (q 75, .inl (cI, 36, .inl f_12)), (q 76, .inl (cZ, 6, .inl (fun _ => 0)))] H := hP
        have hD : va_D A [(h, .inr (12, mG q i)), (q 75, .inl (cI, 36, .inl f_12)), (q 76, .inl (cZ, 6, .inl (fun _ => 0)))] := hD
        refine lv_aload_n hx hb dX12_story_50 rfl (lv_at hl 0 rfl) ?_
        refine va_get (D := D) (ci := 12) (v := .ref (q 76)) (C := RX12) (T := TX12) (N := 81) hx hb hts inT_X12 hown hK.1 hP 0 rfl rfl 76 (by decide) (hts _ k_1429) (fun _ h9 => h9) rfl dX12_story_51 ?_
        refine lv_iload_n hx hb dX12_story_54 rfl (lv_at hl 1 rfl) ?_
        refine lv_iconst (v := 1) hx hb dX12_story_55 (by decide) ?_
        refine st_z hx hb hK hP hD hS 2 rfl (lf_X12_story_13 h q i n1 n2 n3 c_2 c_5 c_8 x_9 ex_9 x_10 ex_10) dX12_story_56 (fun f_14 H locs hP hD hS => ?_)
        have hP : va_P D vwCl [(h, .inr (12, mG q i)), (q 75, .inl (cI, 36, .inl f_12)), (q 76, .inl (cZ, 6, .inl f_14))] H := hP
        have hD : va_D A [(h, .inr (12, mG q i)), (q 75, .inl (cI, 36, .inl f_12)), (q 76, .inl (cZ, 6, .inl f_14))] := hD
        refine lv_iconst (v := 1) hx hb dX12_story_57 (by decide) ?_
        exact W.zret (v := 1) hx hb hr (by decide) (fun t ht hW => ⟨⟨(1 : Int32), (), rfl, (lf_X12_story_15 h q i n1 n2 n3 c_2 c_5 c_8 x_9 ex_9 x_10 ex_10), bx0⟩, hS.F ht⟩) hS.2.2 dX12_story_58 hlocks
      · refine lv_iconst (v := 0) hx hb dX12_story_36 (by decide) ?_
        exact W.zret (v := 0) hx hb hr (by decide) (fun t ht hW => ⟨⟨(0 : Int32), (), rfl, (lf_X12_story_16 h q i n1 n2 n3 c_2 c_5 c_8), bx0⟩, hS.F ht⟩) hS.2.2 dX12_story_37 hlocks

theorem lf_X12_sign_3 (h : Nat) (q : Nat → Nat) (i : Nat → Int32) (f : Nat → Int32) (n1 : Int32) (n2 : Int32) (c_2 : ¬ ((0 : Int32) ≤ n1 ∧ n1 ≤ 5)) : (0 : Int32) = bi ((0 ≤ n1 ∧ n1 ≤ 5) ∧ -1 ≤ n2 ∧ n2 ≤ 1) := by
  first | rfl | (simp only [bi]; rw [if_pos (by grind)]; done) | (simp only [bi]; rw [if_neg (by grind)]; done) | grind
theorem lf_X12_sign_6 (h : Nat) (q : Nat → Nat) (i : Nat → Int32) (f : Nat → Int32) (n1 : Int32) (n2 : Int32) (c_2 : (0 : Int32) ≤ n1 ∧ n1 ≤ 5) (c_5 : ((-1) : Int32) ≤ n2 ∧ n2 ≤ 1) : vp_in n1 6 := by
  first | (unfold vp_in; decide) | (exact vp_in1 (x := n1) (M := 5) 6 (by decide) rfl (by assumption))
theorem lf_X12_sign_8 (h : Nat) (q : Nat → Nat) (i : Nat → Int32) (f : Nat → Int32) (n1 : Int32) (n2 : Int32) (c_2 : (0 : Int32) ≤ n1 ∧ n1 ≤ 5) (c_5 : ((-1) : Int32) ≤ n2 ∧ n2 ≤ 1) : (1 : Int32) = bi ((0 ≤ n1 ∧ n1 ≤ 5) ∧ -1 ≤ n2 ∧ n2 ≤ 1) := by
  first | rfl | (simp only [bi]; rw [if_pos (by grind)]; done) | (simp only [bi]; rw [if_neg (by grind)]; done) | grind
theorem lf_X12_sign_9 (h : Nat) (q : Nat → Nat) (i : Nat → Int32) (f : Nat → Int32) (n1 : Int32) (n2 : Int32) (c_2 : (0 : Int32) ≤ n1 ∧ n1 ≤ 5) (c_5 : ¬ (((-1) : Int32) ≤ n2 ∧ n2 ≤ 1)) : (0 : Int32) = bi ((0 ≤ n1 ∧ n1 ≤ 5) ∧ -1 ≤ n2 ∧ n2 ≤ 1) := by
  first | rfl | (simp only [bi]; rw [if_pos (by grind)]; done) | (simp only [bi]; rw [if_neg (by grind)]; done) | grind
set_option maxHeartbeats 4000000 in
set_option maxRecDepth 100000 in
theorem c_X12_sign (l : Launch) (D : va_G) (cI cB cZ cJ : ClassId) (tx : List (ClassId × FieldType)) (h : Nat) (q : Nat → Nat) (i : Nat → Int32) (f : Nat → Int32) (n1 : Int32) (n2 : Int32) : WrI l D cI cB cZ cJ tx yX12_sign cX12_sign 3 (some .boolean) 1 0 0 [.ref h, .int n1, .int n2] [(h, .inr (12, mG q i)), (q 77, .inl (cI, 6, .inl f))] (fun (r : Int32) (_ : Unit) => r = bi ((0 ≤ n1 ∧ n1 ≤ 5) ∧ -1 ≤ n2 ∧ n2 ≤ 1)) (fun _ => []) := by
  refine wri_of2 (by decide) (Nat.le_of_ble_eq_true rfl) ?_
  intro p e s m below meth c A ls H locs hC hK hP hD hA hS hl
  obtain ⟨hx, hb, hr, hml, hown, hts, hlocks, hin⟩ := hC
  have hown : s.vm.findClass RX12 = some m.cls := hown
  have hl : lv_has ls 3 [(0, .ref h), (1, .int n1), (2, .int n2)] := hl
  refine lv_iload_n hx hb dX12_sign_0 rfl (lv_at hl 1 rfl) ?_
  refine lv_i2l (v := n1.toInt64) hx hb dX12_sign_1 rfl ?_
  refine lv_lconst (v := 0) hx hb dX12_sign_2 (by decide) ?_
  refine lv_ldc2 (v := 5) hx hb hown (hts _ k_2010) dX12_sign_3 ?_
  refine eRi (va_runS (As := [.long n1.toInt64, .long 0, .long 5]) (rest := []) ⟨hx, hb, hml, hown, hts⟩ (c_X12_isIn l D cI cB cZ cJ tx n1.toInt64 0 5 H.size) (zS hts k_1602 v_X12_isIn ⟨Nat.le_of_ble_eq_true rfl, Nat.le_of_ble_eq_true rfl⟩) (px0 hK) rfl rfl hl.1 rfl (lv_room (Nat.le_of_ble_eq_true rfl)) dX12_sign_6 ⟨Nat.le_of_ble_eq_true rfl, Nat.le_of_ble_eq_true rfl⟩) hP hS hA (fun r_1 H locs wr_1 hP hS => ?_)
  have wr_1 : r_1 = bi ((0 : Int32) ≤ n1 ∧ n1 ≤ 5) := isIn32 (lo := 0) (hi := 5) (by decide) (by decide) wr_1
  subst wr_1
  refine lv_bi_eq (tgt := 24) hx hb dX12_sign_9 (by decide) (fun c_2 => ?_) (fun c_2 => ?_)
  · refine lv_iconst (v := 0) hx hb dX12_sign_24 (by decide) ?_
    exact W.zret (v := 0) hx hb hr (by decide) (fun t ht hW => ⟨⟨(0 : Int32), (), rfl, (lf_X12_sign_3 h q i f n1 n2 c_2), bx0⟩, hS.F ht⟩) hS.2.2 dX12_sign_25 hlocks
  · refine lv_iload_n hx hb dX12_sign_12 rfl (lv_at hl 2 rfl) ?_
    refine lv_i2l (v := n2.toInt64) hx hb dX12_sign_13 rfl ?_
    refine lv_ldc2 (v := (-1)) hx hb hown (hts _ k_1950) dX12_sign_14 ?_
    refine lv_lconst (v := 1) hx hb dX12_sign_17 (by decide) ?_
    refine eRi (va_runS (As := [.long n2.toInt64, .long (-1), .long 1]) (rest := []) ⟨hx, hb, hml, hown, hts⟩ (c_X12_isIn l D cI cB cZ cJ tx n2.toInt64 (-1) 1 H.size) (zS hts k_1602 v_X12_isIn ⟨Nat.le_of_ble_eq_true rfl, Nat.le_of_ble_eq_true rfl⟩) (px0 hK) rfl rfl hl.1 rfl (lv_room (Nat.le_of_ble_eq_true rfl)) dX12_sign_18 ⟨Nat.le_of_ble_eq_true rfl, Nat.le_of_ble_eq_true rfl⟩) hP hS hA (fun r_4 H locs wr_4 hP hS => ?_)
    have wr_4 : r_4 = bi (((-1) : Int32) ≤ n2 ∧ n2 ≤ 1) := isIn32 (lo := (-1)) (hi := 1) (by decide) (by decide) wr_4
    subst wr_4
    refine lv_bi_ne (tgt := 26) hx hb dX12_sign_21 (by decide) (fun c_5 => ?_) (fun c_5 => ?_)
    · refine lv_aload_n hx hb dX12_sign_26 rfl (lv_at hl 0 rfl) ?_
      refine va_get (D := D) (ci := 12) (v := .ref (q 77)) (C := RX12) (T := TX12) (N := 81) hx hb hts inT_X12 hown hK.1 hP 0 rfl rfl 77 (by decide) (hts _ k_1430) (fun _ h9 => h9) rfl dX12_sign_27 ?_
      refine lv_iload_n hx hb dX12_sign_30 rfl (lv_at hl 1 rfl) ?_
      refine lv_iload_n hx hb dX12_sign_31 rfl (lv_at hl 2 rfl) ?_
      refine st_i hx hb hK hP hD hS 1 rfl (lf_X12_sign_6 h q i f n1 n2 c_2 c_5) dX12_sign_32 (fun f_7 H locs hP hD hS => ?_)
      have hP : va_P D vwCl [(h, .inr (12, mG q i)), (q 77, .inl (cI, 6, .inl f_7))] H := hP
      have hD : va_D A [(h, .inr (12, mG q i)), (q 77, .inl (cI, 6, .inl f_7))] := hD
      refine lv_iconst (v := 1) hx hb dX12_sign_33 (by decide) ?_
      exact W.zret (v := 1) hx hb hr (by decide) (fun t ht hW => ⟨⟨(1 : Int32), (), rfl, (lf_X12_sign_8 h q i f n1 n2 c_2 c_5), bx0⟩, hS.F ht⟩) hS.2.2 dX12_sign_34 hlocks
    · refine lv_iconst (v := 0) hx hb dX12_sign_24 (by decide) ?_
      exact W.zret (v := 0) hx hb hr (by decide) (fun t ht hW => ⟨⟨(0 : Int32), (), rfl, (lf_X12_sign_9 h q i f n1 n2 c_2 c_5), bx0⟩, hS.F ht⟩) hS.2.2 dX12_sign_25 hlocks

theorem lf_X12_odds_2 (h : Nat) (q : Nat → Nat) (i : Nat → Int32) (n1 : Int32) (c_1 : n1 = (-1)) : (0 : Int64) = (if n1 = -1 then 0 else -1) := by
  first | (rw [if_pos ‹_›]; done) | (rw [if_neg ‹_›]; done) | grind
theorem lf_X12_odds_5 (h : Nat) (q : Nat → Nat) (i : Nat → Int32) (n1 : Int32) (c_1 : ¬ n1 = (-1)) (c_4 : ¬ ((0 : Int32) ≤ n1 ∧ n1 ≤ 5)) : ((-1) : Int64) = (if n1 = -1 then 0 else -1) := by
  first | (rw [if_pos ‹_›]; done) | (rw [if_neg ‹_›]; done) | grind
theorem lf_X12_odds_6 (h : Nat) (q : Nat → Nat) (i : Nat → Int32) (n1 : Int32) (c_1 : ¬ n1 = (-1)) (c_4 : (0 : Int32) ≤ n1 ∧ n1 ≤ 5) : vp_in n1 6 := by
  first | (unfold vp_in; decide) | (exact vp_in1 (x := n1) (M := 5) 6 (by decide) rfl (by assumption))
theorem lf_X12_odds_7 (h : Nat) (q : Nat → Nat) (i : Nat → Int32) (n1 : Int32) (c_1 : ¬ n1 = (-1)) (c_4 : (0 : Int32) ≤ n1 ∧ n1 ≤ 5) : ((-1) : Int64) = (if n1 = -1 then 0 else -1) := by
  first | (rw [if_pos ‹_›]; done) | (rw [if_neg ‹_›]; done) | grind
set_option maxHeartbeats 4000000 in
set_option maxRecDepth 100000 in
theorem c_X12_odds (l : Launch) (D : va_G) (cI cB cZ cJ : ClassId) (tx : List (ClassId × FieldType)) (h : Nat) (q : Nat → Nat) (i : Nat → Int32) (n1 : Int32) : WrL l D cI cB cZ cJ tx yX12_odds cX12_odds 5 (some .long) 1 0 0 [.ref h, .int n1] [(h, .inr (12, mG q i)), (q 76, .inl (cZ, 6, .inl (fun _ => 0)))] (fun (r : Int64) (_ : Unit) => r = (if n1 = -1 then 0 else -1)) (fun _ => []) := by
  refine wrl_of2 (by decide) (Nat.le_of_ble_eq_true rfl) ?_
  intro p e s m below meth c A ls H locs hC hK hP hD hA hS hl
  obtain ⟨hx, hb, hr, hml, hown, hts, hlocks, hin⟩ := hC
  have hown : s.vm.findClass RX12 = some m.cls := hown
  have hl : lv_has ls 5 [(0, .ref h), (1, .int n1)] := hl
  refine lv_iload_n hx hb dX12_odds_0 rfl (lv_at hl 1 rfl) ?_
  refine lv_iconst (v := (-1)) hx hb dX12_odds_1 (by decide) ?_
  refine lv_icmp_eq (tgt := 38) hx hb dX12_odds_2 (by decide) (fun c_1 => ?_) (fun c_1 => ?_)
  · refine lv_lconst (v := 0) hx hb dX12_odds_38 (by decide) ?_
    refine lv_lstore_n (lv' := [(2, .long 0), (0, .ref h), (1, .int n1)]) hx hb dX12_odds_39 rfl hl (by decide) rfl (fun ls hl => ?_)
    refine lv_iconst (v := 0) hx hb dX12_odds_40 (by decide) ?_
    refine lv_istore (lv' := [(4, .int 0), (2, .long 0), (0, .ref h), (1, .int n1)]) hx hb dX12_odds_41 hl (by decide) rfl (fun ls hl => ?_)
    refine lv_iload hx hb dX12_odds_43 (lv_at hl 0 rfl) ?_
    refine lv_bipush (v := 6) hx hb dX12_odds_45 (by decide) ?_
    refine lv_icmp_ge (tgt := 79) hx hb dX12_odds_47 (by decide) (fun c => absurd c (by decide)) (fun _ => ?_)
    refine lv_lload_n hx hb dX12_odds_50 rfl (lv_at hl 1 rfl) ?_
    refine lv_aload_n hx hb dX12_odds_51 rfl (lv_at hl 2 rfl) ?_
    refine va_get (D := D) (ci := 12) (v := .ref (q 76)) (C := RX12) (T := TX12) (N := 81) hx hb hts inT_X12 hown hK.1 hP 0 rfl rfl 76 (by decide) (hts _ k_1429) (fun _ h9 => h9) rfl dX12_odds_52 ?_
    refine lv_iload hx hb dX12_odds_55 (lv_at hl 0 rfl) ?_
    refine l0_z hx hb hK hP 1 rfl (by unfold vp_in; decide) dX12_odds_57 ?_
    refine lv_if_eq (tgt := 70) hx hb dX12_odds_58 (by decide) (fun _ => ?_) (fun c => absurd c (by decide))
    refine lv_lconst (v := 0) hx hb dX12_odds_70 (by decide) ?_
    refine lv_ladd hx hb dX12_odds_71 ?_
    refine lv_topw (y := 0) (by decide) ?_
    refine lv_lstore_n (lv' := [(2, .long 0), (4, .int 0), (0, .ref h), (1, .int n1)]) hx hb dX12_odds_72 rfl hl (by decide) rfl (fun ls hl => ?_)
    refine lv_iinc (v := 1) (lv' := [(4, .int 1), (2, .long 0), (0, .ref h), (1, .int n1)]) hx hb dX12_odds_73 hl (k := 1) rfl (by decide) (by decide) rfl (fun ls hl => ?_)
    refine lv_goto (tgt := 43) hx hb dX12_odds_76 (by decide) ?_
    refine lv_iload hx hb dX12_odds_43 (lv_at hl 0 rfl) ?_
    refine lv_bipush (v := 6) hx hb dX12_odds_45 (by decide) ?_
    refine lv_icmp_ge (tgt := 79) hx hb dX12_odds_47 (by decide) (fun c => absurd c (by decide)) (fun _ => ?_)
    refine lv_lload_n hx hb dX12_odds_50 rfl (lv_at hl 1 rfl) ?_
    refine lv_aload_n hx hb dX12_odds_51 rfl (lv_at hl 2 rfl) ?_
    refine va_get (D := D) (ci := 12) (v := .ref (q 76)) (C := RX12) (T := TX12) (N := 81) hx hb hts inT_X12 hown hK.1 hP 0 rfl rfl 76 (by decide) (hts _ k_1429) (fun _ h9 => h9) rfl dX12_odds_52 ?_
    refine lv_iload hx hb dX12_odds_55 (lv_at hl 0 rfl) ?_
    refine l0_z hx hb hK hP 1 rfl (by unfold vp_in; decide) dX12_odds_57 ?_
    refine lv_if_eq (tgt := 70) hx hb dX12_odds_58 (by decide) (fun _ => ?_) (fun c => absurd c (by decide))
    refine lv_lconst (v := 0) hx hb dX12_odds_70 (by decide) ?_
    refine lv_ladd hx hb dX12_odds_71 ?_
    refine lv_topw (y := 0) (by decide) ?_
    refine lv_lstore_n (lv' := [(2, .long 0), (4, .int 1), (0, .ref h), (1, .int n1)]) hx hb dX12_odds_72 rfl hl (by decide) rfl (fun ls hl => ?_)
    refine lv_iinc (v := 2) (lv' := [(4, .int 2), (2, .long 0), (0, .ref h), (1, .int n1)]) hx hb dX12_odds_73 hl (k := 1) rfl (by decide) (by decide) rfl (fun ls hl => ?_)
    refine lv_goto (tgt := 43) hx hb dX12_odds_76 (by decide) ?_
    refine lv_iload hx hb dX12_odds_43 (lv_at hl 0 rfl) ?_
    refine lv_bipush (v := 6) hx hb dX12_odds_45 (by decide) ?_
    refine lv_icmp_ge (tgt := 79) hx hb dX12_odds_47 (by decide) (fun c => absurd c (by decide)) (fun _ => ?_)
    refine lv_lload_n hx hb dX12_odds_50 rfl (lv_at hl 1 rfl) ?_
    refine lv_aload_n hx hb dX12_odds_51 rfl (lv_at hl 2 rfl) ?_
    refine va_get (D := D) (ci := 12) (v := .ref (q 76)) (C := RX12) (T := TX12) (N := 81) hx hb hts inT_X12 hown hK.1 hP 0 rfl rfl 76 (by decide) (hts _ k_1429) (fun _ h9 => h9) rfl dX12_odds_52 ?_
    refine lv_iload hx hb dX12_odds_55 (lv_at hl 0 rfl) ?_
    refine l0_z hx hb hK hP 1 rfl (by unfold vp_in; decide) dX12_odds_57 ?_
    refine lv_if_eq (tgt := 70) hx hb dX12_odds_58 (by decide) (fun _ => ?_) (fun c => absurd c (by decide))
    refine lv_lconst (v := 0) hx hb dX12_odds_70 (by decide) ?_
    refine lv_ladd hx hb dX12_odds_71 ?_
    refine lv_topw (y := 0) (by decide) ?_
    refine lv_lstore_n (lv' := [(2, .long 0), (4, .int 2), (0, .ref h), (1, .int n1)]) hx hb dX12_odds_72 rfl hl (by decide) rfl (fun ls hl => ?_)
    refine lv_iinc (v := 3) (lv' := [(4, .int 3), (2, .long 0), (0, .ref h), (1, .int n1)]) hx hb dX12_odds_73 hl (k := 1) rfl (by decide) (by decide) rfl (fun ls hl => ?_)
    refine lv_goto (tgt := 43) hx hb dX12_odds_76 (by decide) ?_
    refine lv_iload hx hb dX12_odds_43 (lv_at hl 0 rfl) ?_
    refine lv_bipush (v := 6) hx hb dX12_odds_45 (by decide) ?_
    refine lv_icmp_ge (tgt := 79) hx hb dX12_odds_47 (by decide) (fun c => absurd c (by decide)) (fun _ => ?_)
    refine lv_lload_n hx hb dX12_odds_50 rfl (lv_at hl 1 rfl) ?_
    refine lv_aload_n hx hb dX12_odds_51 rfl (lv_at hl 2 rfl) ?_
    refine va_get (D := D) (ci := 12) (v := .ref (q 76)) (C := RX12) (T := TX12) (N := 81) hx hb hts inT_X12 hown hK.1 hP 0 rfl rfl 76 (by decide) (hts _ k_1429) (fun _ h9 => h9) rfl dX12_odds_52 ?_
    refine lv_iload hx hb dX12_odds_55 (lv_at hl 0 rfl) ?_
    refine l0_z hx hb hK hP 1 rfl (by unfold vp_in; decide) dX12_odds_57 ?_
    refine lv_if_eq (tgt := 70) hx hb dX12_odds_58 (by decide) (fun _ => ?_) (fun c => absurd c (by decide))
    refine lv_lconst (v := 0) hx hb dX12_odds_70 (by decide) ?_
    refine lv_ladd hx hb dX12_odds_71 ?_
    refine lv_topw (y := 0) (by decide) ?_
    refine lv_lstore_n (lv' := [(2, .long 0), (4, .int 3), (0, .ref h), (1, .int n1)]) hx hb dX12_odds_72 rfl hl (by decide) rfl (fun ls hl => ?_)
    refine lv_iinc (v := 4) (lv' := [(4, .int 4), (2, .long 0), (0, .ref h), (1, .int n1)]) hx hb dX12_odds_73 hl (k := 1) rfl (by decide) (by decide) rfl (fun ls hl => ?_)
    refine lv_goto (tgt := 43) hx hb dX12_odds_76 (by decide) ?_
    refine lv_iload hx hb dX12_odds_43 (lv_at hl 0 rfl) ?_
    refine lv_bipush (v := 6) hx hb dX12_odds_45 (by decide) ?_
    refine lv_icmp_ge (tgt := 79) hx hb dX12_odds_47 (by decide) (fun c => absurd c (by decide)) (fun _ => ?_)
    refine lv_lload_n hx hb dX12_odds_50 rfl (lv_at hl 1 rfl) ?_
    refine lv_aload_n hx hb dX12_odds_51 rfl (lv_at hl 2 rfl) ?_
    refine va_get (D := D) (ci := 12) (v := .ref (q 76)) (C := RX12) (T := TX12) (N := 81) hx hb hts inT_X12 hown hK.1 hP 0 rfl rfl 76 (by decide) (hts _ k_1429) (fun _ h9 => h9) rfl dX12_odds_52 ?_
    refine lv_iload hx hb dX12_odds_55 (lv_at hl 0 rfl) ?_
    refine l0_z hx hb hK hP 1 rfl (by unfold vp_in; decide) dX12_odds_57 ?_
    refine lv_if_eq (tgt := 70) hx hb dX12_odds_58 (by decide) (fun _ => ?_) (fun c => absurd c (by decide))
    refine lv_lconst (v := 0) hx hb dX12_odds_70 (by decide) ?_
    refine lv_ladd hx hb dX12_odds_71 ?_
    refine lv_topw (y := 0) (by decide) ?_
    refine lv_lstore_n (lv' := [(2, .long 0), (4, .int 4), (0, .ref h), (1, .int n1)]) hx hb dX12_odds_72 rfl hl (by decide) rfl (fun ls hl => ?_)
    refine lv_iinc (v := 5) (lv' := [(4, .int 5), (2, .long 0), (0, .ref h), (1, .int n1)]) hx hb dX12_odds_73 hl (k := 1) rfl (by decide) (by decide) rfl (fun ls hl => ?_)
    refine lv_goto (tgt := 43) hx hb dX12_odds_76 (by decide) ?_
    refine lv_iload hx hb dX12_odds_43 (lv_at hl 0 rfl) ?_
    refine lv_bipush (v := 6) hx hb dX12_odds_45 (by decide) ?_
    refine lv_icmp_ge (tgt := 79) hx hb dX12_odds_47 (by decide) (fun c => absurd c (by decide)) (fun _ => ?_)
    refine lv_lload_n hx hb dX12_odds_50 rfl (lv_at hl 1 rfl) ?_
    refine lv_aload_n hx hb dX12_odds_51 rfl (lv_at hl 2 rfl) ?_
    refine va_get (D := D) (ci := 12) (v := .ref (q 76)) (C := RX12) (T := TX12) (N := 81) hx hb hts inT_X12 hown hK.1 hP 0 rfl rfl 76 (by decide) (hts _ k_1429) (fun _ h9 => h9) rfl dX12_odds_52 ?_
    refine lv_iload hx hb dX12_odds_55 (lv_at hl 0 rfl) ?_
    refine l0_z hx hb hK hP 1 rfl (by unfold vp_in; decide) dX12_odds_57 ?_
    refine lv_if_eq (tgt := 70) hx hb dX12_odds_58 (by decide) (fun _ => ?_) (fun c => absurd c (by decide))
    refine lv_lconst (v := 0) hx hb dX12_odds_70 (by decide) ?_
    refine lv_ladd hx hb dX12_odds_71 ?_
    refine lv_topw (y := 0) (by decide) ?_
    refine lv_lstore_n (lv' := [(2, .long 0), (4, .int 5), (0, .ref h), (1, .int n1)]) hx hb dX12_odds_72 rfl hl (by decide) rfl (fun ls hl => ?_)
    refine lv_iinc (v := 6) (lv' := [(4, .int 6), (2, .long 0), (0, .ref h), (1, .int n1)]) hx hb dX12_odds_73 hl (k := 1) rfl (by decide) (by decide) rfl (fun ls hl => ?_)
    refine lv_goto (tgt := 43) hx hb dX12_odds_76 (by decide) ?_
    refine lv_iload hx hb dX12_odds_43 (lv_at hl 0 rfl) ?_
    refine lv_bipush (v := 6) hx hb dX12_odds_45 (by decide) ?_
    refine lv_icmp_ge (tgt := 79) hx hb dX12_odds_47 (by decide) (fun _ => ?_) (fun c => absurd c (by decide))
    refine lv_lload_n hx hb dX12_odds_79 rfl (lv_at hl 1 rfl) ?_
    exact W.lret (v := 0) hx hb hr (fun t ht hW => ⟨⟨(0 : Int64), (), rfl, (lf_X12_odds_2 h q i n1 c_1), bx0⟩, hS.F ht⟩) hS.2.2 dX12_odds_80 hlocks
  · refine lv_iload_n hx hb dX12_odds_5 rfl (lv_at hl 1 rfl) ?_
    refine lv_i2l (v := n1.toInt64) hx hb dX12_odds_6 rfl ?_
    refine lv_lconst (v := 0) hx hb dX12_odds_7 (by decide) ?_
    refine lv_ldc2 (v := 5) hx hb hown (hts _ k_2010) dX12_odds_8 ?_
    refine eRi (va_runS (As := [.long n1.toInt64, .long 0, .long 5]) (rest := []) ⟨hx, hb, hml, hown, hts⟩ (c_X12_isIn l D cI cB cZ cJ tx n1.toInt64 0 5 H.size) (zS hts k_1602 v_X12_isIn ⟨Nat.le_of_ble_eq_true rfl, Nat.le_of_ble_eq_true rfl⟩) (px0 hK) rfl rfl hl.1 rfl (lv_room (Nat.le_of_ble_eq_true rfl)) dX12_odds_11 ⟨Nat.le_of_ble_eq_true rfl, Nat.le_of_ble_eq_true rfl⟩) hP hS hA (fun r_3 H locs wr_3 hP hS => ?_)
    have wr_3 : r_3 = bi ((0 : Int32) ≤ n1 ∧ n1 ≤ 5) := isIn32 (lo := 0) (hi := 5) (by decide) (by decide) wr_3
    subst wr_3
    refine lv_bi_eq (tgt := 34) hx hb dX12_odds_14 (by decide) (fun c_4 => ?_) (fun c_4 => ?_)
    · refine lv_ldc2 (v := (-1)) hx hb hown (hts _ k_1950) dX12_odds_34 ?_
      exact W.lret (v := (-1)) hx hb hr (fun t ht hW => ⟨⟨((-1) : Int64), (), rfl, (lf_X12_odds_5 h q i n1 c_1 c_4), bx0⟩, hS.F ht⟩) hS.2.2 dX12_odds_37 hlocks
    · refine lv_aload_n hx hb dX12_odds_17 rfl (lv_at hl 0 rfl) ?_
      refine va_get (D := D) (ci := 12) (v := .ref (q 76)) (C := RX12) (T := TX12) (N := 81) hx hb hts inT_X12 hown hK.1 hP 0 rfl rfl 76 (by decide) (hts _ k_1429) (fun _ h9 => h9) rfl dX12_odds_18 ?_
      refine lv_iload_n hx hb dX12_odds_21 rfl (lv_at hl 1 rfl) ?_
      refine l0_z hx hb hK hP 1 rfl (lf_X12_odds_6 h q i n1 c_1 c_4) dX12_odds_22 ?_
      refine lv_if_eq (tgt := 34) hx hb dX12_odds_23 (by decide) (fun _ => ?_) (fun c => absurd c (by decide))
      refine lv_ldc2 (v := (-1)) hx hb hown (hts _ k_1950) dX12_odds_34 ?_
      exact W.lret (v := (-1)) hx hb hr (fun t ht hW => ⟨⟨((-1) : Int64), (), rfl, (lf_X12_odds_7 h q i n1 c_1 c_4), bx0⟩, hS.F ht⟩) hS.2.2 dX12_odds_37 hlocks

theorem lf_X12_next_3 (h : Nat) (q : Nat → Nat) (i : Nat → Int32) (n1 : Int32) (c_2 : ¬ ((0 : Int32) ≤ n1 ∧ n1 ≤ 1)) : ((-1) : Int32) = -1 := by
  first | rfl | (simp only [bi]; rw [if_pos (by grind)]; done) | (simp only [bi]; rw [if_neg (by grind)]; done) | grind
theorem lf_X12_next_5 (h : Nat) (q : Nat → Nat) (i : Nat → Int32) (n1 : Int32) (c_2 : (0 : Int32) ≤ n1 ∧ n1 ≤ 1) : ((-1) : Int32) = -1 := by
  first | rfl | (simp only [bi]; rw [if_pos (by grind)]; done) | (simp only [bi]; rw [if_neg (by grind)]; done) | grind
set_option maxHeartbeats 4000000 in
set_option maxRecDepth 100000 in
theorem c_X12_next (l : Launch) (D : va_G) (cI cB cZ cJ : ClassId) (tx : List (ClassId × FieldType)) (h : Nat) (q : Nat → Nat) (i : Nat → Int32) (n1 : Int32) : WrI l D cI cB cZ cJ tx yX12_next cX12_next 8 (some .int) 1 0 0 [.ref h, .int n1] [(h, .inr (12, mG q i)), (q 76, .inl (cZ, 6, .inl (fun _ => 0)))] (fun (r : Int32) (_ : Unit) => r = -1) (fun _ => []) := by
  refine wri_of2 (by decide) (Nat.le_of_ble_eq_true rfl) ?_
  intro p e s m below meth c A ls H locs hC hK hP hD hA hS hl
  obtain ⟨hx, hb, hr, hml, hown, hts, hlocks, hin⟩ := hC
  have hown : s.vm.findClass RX12 = some m.cls := hown
  have hl : lv_has ls 8 [(0, .ref h), (1, .int n1)] := hl
  refine lv_iload_n hx hb dX12_next_0 rfl (lv_at hl 1 rfl) ?_
  refine lv_i2l (v := n1.toInt64) hx hb dX12_next_1 rfl ?_
  refine lv_lconst (v := 0) hx hb dX12_next_2 (by decide) ?_
  refine lv_lconst (v := 1) hx hb dX12_next_3 (by decide) ?_
  refine eRi (va_runS (As := [.long n1.toInt64, .long 0, .long 1]) (rest := []) ⟨hx, hb, hml, hown, hts⟩ (c_X12_isIn l D cI cB cZ cJ tx n1.toInt64 0 1 H.size) (zS hts k_1602 v_X12_isIn ⟨Nat.le_of_ble_eq_true rfl, Nat.le_of_ble_eq_true rfl⟩) (px0 hK) rfl rfl hl.1 rfl (lv_room (Nat.le_of_ble_eq_true rfl)) dX12_next_4 ⟨Nat.le_of_ble_eq_true rfl, Nat.le_of_ble_eq_true rfl⟩) hP hS hA (fun r_1 H locs wr_1 hP hS => ?_)
  have wr_1 : r_1 = bi ((0 : Int32) ≤ n1 ∧ n1 ≤ 1) := isIn32 (lo := 0) (hi := 1) (by decide) (by decide) wr_1
  subst wr_1
  refine lv_bi_eq (tgt := 17) hx hb dX12_next_7 (by decide) (fun c_2 => ?_) (fun c_2 => ?_)
  · refine lv_iconst (v := (-1)) hx hb dX12_next_17 (by decide) ?_
    exact W.iret (v := (-1)) hx hb hr (fun t ht hW => ⟨⟨((-1) : Int32), (), rfl, (lf_X12_next_3 h q i n1 c_2), bx0⟩, hS.F ht⟩) hS.2.2 dX12_next_18 hlocks
  · refine lv_aload_n hx hb dX12_next_10 rfl (lv_at hl 0 rfl) ?_
    refine eRi (va_runV (As := []) (rest := []) ⟨hx, hb, hml, hown, hts⟩ (c_X12_storiesTold l D cI cB cZ cJ tx h q i H.size) (zV hts k_2042 v_X12_storiesTold ⟨Nat.le_of_ble_eq_true rfl, Nat.le_of_ble_eq_true rfl⟩) (pV (pxS hK hP hD [0, 1] (by decide) rfl) hK hP 0 rfl rfl) rfl rfl hl.1 rfl (lv_room (Nat.le_of_ble_eq_true rfl)) dX12_next_11 ⟨Nat.le_of_ble_eq_true rfl, Nat.le_of_ble_eq_true rfl⟩) hP hS hA (fun r_4 H locs wr_4 hP hS => ?_)
    subst wr_4
    refine lv_if_ne (tgt := 19) hx hb dX12_next_14 (by decide) (fun c => absurd c (by decide)) (fun _ => ?_)
    refine lv_iconst (v := (-1)) hx hb dX12_next_17 (by decide) ?_
    exact W.iret (v := (-1)) hx hb hr (fun t ht hW => ⟨⟨((-1) : Int32), (), rfl, (lf_X12_next_5 h q i n1 c_2), bx0⟩, hS.F ht⟩) hS.2.2 dX12_next_18 hlocks

theorem lf_X12_area_2 (h : Nat) (q : Nat → Nat) (i : Nat → Int32) (n1 : Int32) (n2 : Int32) (n3 : Int32) (n4 : Int32) (h2 : i 2 = 0) : ((-1) : Int64) = -1 := by
  first | rfl | (simp only [bi]; rw [if_pos (by grind)]; done) | (simp only [bi]; rw [if_neg (by grind)]; done) | grind
set_option maxHeartbeats 4000000 in
set_option maxRecDepth 100000 in
theorem c_X12_area (l : Launch) (D : va_G) (cI cB cZ cJ : ClassId) (tx : List (ClassId × FieldType)) (h : Nat) (q : Nat → Nat) (i : Nat → Int32) (n1 : Int32) (n2 : Int32) (n3 : Int32) (n4 : Int32) (h2 : i 2 = 0) : WrL l D cI cB cZ cJ tx yX12_area cX12_area 5 (some .long) 2 0 0 [.ref h, .int n1, .int n2, .int n3, .int n4] [(h, .inr (12, mG q i))] (fun (r : Int64) (_ : Unit) => r = -1) (fun _ => []) := by
  refine wrl_of2 (by decide) (Nat.le_of_ble_eq_true rfl) ?_
  intro p e s m below meth c A ls H locs hC hK hP hD hA hS hl
  obtain ⟨hx, hb, hr, hml, hown, hts, hlocks, hin⟩ := hC
  have hown : s.vm.findClass RX12 = some m.cls := hown
  have hl : lv_has ls 5 [(0, .ref h), (1, .int n1), (2, .int n2), (3, .int n3), (4, .int n4)] := hl
  refine lv_aload_n hx hb dX12_area_0 rfl (lv_at hl 0 rfl) ?_
  refine lv_iload_n hx hb dX12_area_1 rfl (lv_at hl 1 rfl) ?_
  refine eRi (va_runV (As := [.int n1]) (rest := []) ⟨hx, hb, hml, hown, hts⟩ (c_X12_isStation l D cI cB cZ cJ tx h q i n1 h2 H.size) (zV hts k_1803 v_X12_isStation ⟨Nat.le_of_ble_eq_true rfl, Nat.le_of_ble_eq_true rfl⟩) (pV (px1 hK hP 0 rfl) hK hP 0 rfl rfl) rfl rfl hl.1 rfl (lv_room (Nat.le_of_ble_eq_true rfl)) dX12_area_2 ⟨Nat.le_of_ble_eq_true rfl, Nat.le_of_ble_eq_true rfl⟩) hP hS hA (fun r_1 H locs wr_1 hP hS => ?_)
  subst wr_1
  refine lv_if_eq (tgt := 43) hx hb dX12_area_5 (by decide) (fun _ => ?_) (fun c => absurd c (by decide))
  refine lv_ldc2 (v := (-1)) hx hb hown (hts _ k_1950) dX12_area_43 ?_
  exact W.lret (v := (-1)) hx hb hr (fun t ht hW => ⟨⟨((-1) : Int64), (), rfl, (lf_X12_area_2 h q i n1 n2 n3 n4 h2), bx0⟩, hS.F ht⟩) hS.2.2 dX12_area_46 hlocks

theorem lf_X12_volume_3 (h : Nat) (q : Nat → Nat) (i : Nat → Int32) (n1 : Int32) (n2 : Int32) (n3 : Int32) (h3 : i 3 = 0) (c_2 : ¬ ((1 : Int32) ≤ n1 ∧ n1 ≤ 200)) : ((-1) : Int64) = -1 := by
  first | rfl | (simp only [bi]; rw [if_pos (by grind)]; done) | (simp only [bi]; rw [if_neg (by grind)]; done) | grind
theorem lf_X12_volume_5 (h : Nat) (q : Nat → Nat) (i : Nat → Int32) (n1 : Int32) (n2 : Int32) (n3 : Int32) (h3 : i 3 = 0) (c_2 : (1 : Int32) ≤ n1 ∧ n1 ≤ 200) : ((-1) : Int64) = -1 := by
  first | rfl | (simp only [bi]; rw [if_pos (by grind)]; done) | (simp only [bi]; rw [if_neg (by grind)]; done) | grind
set_option maxHeartbeats 4000000 in
set_option maxRecDepth 100000 in
theorem c_X12_volume (l : Launch) (D : va_G) (cI cB cZ cJ : ClassId) (tx : List (ClassId × FieldType)) (h : Nat) (q : Nat → Nat) (i : Nat → Int32) (n1 : Int32) (n2 : Int32) (n3 : Int32) (h3 : i 3 = 0) : WrL l D cI cB cZ cJ tx yX12_volume cX12_volume 4 (some .long) 2 0 0 [.ref h, .int n1, .int n2, .int n3] [(h, .inr (12, mG q i))] (fun (r : Int64) (_ : Unit) => r = -1) (fun _ => []) := by
  refine wrl_of2 (by decide) (Nat.le_of_ble_eq_true rfl) ?_
  intro p e s m below meth c A ls H locs hC hK hP hD hA hS hl
  obtain ⟨hx, hb, hr, hml, hown, hts, hlocks, hin⟩ := hC
  have hown : s.vm.findClass RX12 = some m.cls := hown
  have hl : lv_has ls 4 [(0, .ref h), (1, .int n1), (2, .int n2), (3, .int n3)] := hl
  refine lv_iload_n hx hb dX12_volume_0 rfl (lv_at hl 1 rfl) ?_
  refine eRi (va_runS (As := [.int n1]) (rest := []) ⟨hx, hb, hml, hown, hts⟩ (c_X12_isHeight l D cI cB cZ cJ tx n1 H.size) (zS hts k_2054 v_X12_isHeight ⟨Nat.le_of_ble_eq_true rfl, Nat.le_of_ble_eq_true rfl⟩) (px0 hK) rfl rfl hl.1 rfl (lv_room (Nat.le_of_ble_eq_true rfl)) dX12_volume_1 ⟨Nat.le_of_ble_eq_true rfl, Nat.le_of_ble_eq_true rfl⟩) hP hS hA (fun r_1 H locs wr_1 hP hS => ?_)
  subst wr_1
  refine lv_bi_eq (tgt := 32) hx hb dX12_volume_4 (by decide) (fun c_2 => ?_) (fun c_2 => ?_)
  · refine lv_ldc2 (v := (-1)) hx hb hown (hts _ k_1950) dX12_volume_32 ?_
    exact W.lret (v := (-1)) hx hb hr (fun t ht hW => ⟨⟨((-1) : Int64), (), rfl, (lf_X12_volume_3 h q i n1 n2 n3 h3 c_2), bx0⟩, hS.F ht⟩) hS.2.2 dX12_volume_35 hlocks
  · refine lv_aload_n hx hb dX12_volume_7 rfl (lv_at hl 0 rfl) ?_
    refine lv_iload_n hx hb dX12_volume_8 rfl (lv_at hl 3 rfl) ?_
    refine eRi (va_runV (As := [.int n3]) (rest := []) ⟨hx, hb, hml, hown, hts⟩ (c_X12_isStrake l D cI cB cZ cJ tx h q i n3 h3 H.size) (zV hts k_1807 v_X12_isStrake ⟨Nat.le_of_ble_eq_true rfl, Nat.le_of_ble_eq_true rfl⟩) (pV (px1 hK hP 0 rfl) hK hP 0 rfl rfl) rfl rfl hl.1 rfl (lv_room (Nat.le_of_ble_eq_true rfl)) dX12_volume_9 ⟨Nat.le_of_ble_eq_true rfl, Nat.le_of_ble_eq_true rfl⟩) hP hS hA (fun r_4 H locs wr_4 hP hS => ?_)
    subst wr_4
    refine lv_if_eq (tgt := 32) hx hb dX12_volume_12 (by decide) (fun _ => ?_) (fun c => absurd c (by decide))
    refine lv_ldc2 (v := (-1)) hx hb hown (hts _ k_1950) dX12_volume_32 ?_
    exact W.lret (v := (-1)) hx hb hr (fun t ht hW => ⟨⟨((-1) : Int64), (), rfl, (lf_X12_volume_5 h q i n1 n2 n3 h3 c_2), bx0⟩, hS.F ht⟩) hS.2.2 dX12_volume_35 hlocks

theorem lf_X12_depth_3 (h : Nat) (q : Nat → Nat) (i : Nat → Int32) (n1 : Int32) (n2 : Int32) (n3 : Int32) (h3 : i 3 = 0) (c_2 : ¬ ((1 : Int32) ≤ n1 ∧ n1 ≤ 200)) : ((-1) : Int32) = -1 := by
  first | rfl | (simp only [bi]; rw [if_pos (by grind)]; done) | (simp only [bi]; rw [if_neg (by grind)]; done) | grind
theorem lf_X12_depth_6 (h : Nat) (q : Nat → Nat) (i : Nat → Int32) (n1 : Int32) (n2 : Int32) (n3 : Int32) (h3 : i 3 = 0) (c_2 : (1 : Int32) ≤ n1 ∧ n1 ≤ 200) (c_5 : ¬ ((0 : Int32) ≤ n3 ∧ n3 ≤ 2000000000)) : ((-1) : Int32) = -1 := by
  first | rfl | (simp only [bi]; rw [if_pos (by grind)]; done) | (simp only [bi]; rw [if_neg (by grind)]; done) | grind
theorem lf_X12_depth_8 (h : Nat) (q : Nat → Nat) (i : Nat → Int32) (n1 : Int32) (n2 : Int32) (n3 : Int32) (h3 : i 3 = 0) (c_2 : (1 : Int32) ≤ n1 ∧ n1 ≤ 200) (c_5 : (0 : Int32) ≤ n3 ∧ n3 ≤ 2000000000) : ((-1) : Int32) = -1 := by
  first | rfl | (simp only [bi]; rw [if_pos (by grind)]; done) | (simp only [bi]; rw [if_neg (by grind)]; done) | grind
set_option maxHeartbeats 4000000 in
set_option maxRecDepth 100000 in
theorem c_X12_depth (l : Launch) (D : va_G) (cI cB cZ cJ : ClassId) (tx : List (ClassId × FieldType)) (h : Nat) (q : Nat → Nat) (i : Nat → Int32) (n1 : Int32) (n2 : Int32) (n3 : Int32) (h3 : i 3 = 0) : WrI l D cI cB cZ cJ tx yX12_depth cX12_depth 5 (some .int) 4 0 0 [.ref h, .int n1, .int n2, .int n3] [(h, .inr (12, mG q i))] (fun (r : Int32) (_ : Unit) => r = -1) (fun _ => []) := by
  refine wri_of2 (by decide) (Nat.le_of_ble_eq_true rfl) ?_
  intro p e s m below meth c A ls H locs hC hK hP hD hA hS hl
  obtain ⟨hx, hb, hr, hml, hown, hts, hlocks, hin⟩ := hC
  have hown : s.vm.findClass RX12 = some m.cls := hown
  have hl : lv_has ls 5 [(0, .ref h), (1, .int n1), (2, .int n2), (3, .int n3)] := hl
  refine lv_iload_n hx hb dX12_depth_0 rfl (lv_at hl 1 rfl) ?_
  refine eRi (va_runS (As := [.int n1]) (rest := []) ⟨hx, hb, hml, hown, hts⟩ (c_X12_isHeight l D cI cB cZ cJ tx n1 H.size) (zS hts k_2054 v_X12_isHeight ⟨Nat.le_of_ble_eq_true rfl, Nat.le_of_ble_eq_true rfl⟩) (px0 hK) rfl rfl hl.1 rfl (lv_room (Nat.le_of_ble_eq_true rfl)) dX12_depth_1 ⟨Nat.le_of_ble_eq_true rfl, Nat.le_of_ble_eq_true rfl⟩) hP hS hA (fun r_1 H locs wr_1 hP hS => ?_)
  subst wr_1
  refine lv_bi_eq (tgt := 27) hx hb dX12_depth_4 (by decide) (fun c_2 => ?_) (fun c_2 => ?_)
  · refine lv_iconst (v := (-1)) hx hb dX12_depth_27 (by decide) ?_
    exact W.iret (v := (-1)) hx hb hr (fun t ht hW => ⟨⟨((-1) : Int32), (), rfl, (lf_X12_depth_3 h q i n1 n2 n3 h3 c_2), bx0⟩, hS.F ht⟩) hS.2.2 dX12_depth_28 hlocks
  · refine lv_iload_n hx hb dX12_depth_7 rfl (lv_at hl 3 rfl) ?_
    refine lv_i2l (v := n3.toInt64) hx hb dX12_depth_8 rfl ?_
    refine lv_lconst (v := 0) hx hb dX12_depth_9 (by decide) ?_
    refine lv_ldc2 (v := 2000000000) hx hb hown (hts _ k_2077) dX12_depth_10 ?_
    refine eRi (va_runS (As := [.long n3.toInt64, .long 0, .long 2000000000]) (rest := []) ⟨hx, hb, hml, hown, hts⟩ (c_X12_isIn l D cI cB cZ cJ tx n3.toInt64 0 2000000000 H.size) (zS hts k_1602 v_X12_isIn ⟨Nat.le_of_ble_eq_true rfl, Nat.le_of_ble_eq_true rfl⟩) (px0 hK) rfl rfl hl.1 rfl (lv_room (Nat.le_of_ble_eq_true rfl)) dX12_depth_13 ⟨Nat.le_of_ble_eq_true rfl, Nat.le_of_ble_eq_true rfl⟩) hP hS hA (fun r_4 H locs wr_4 hP hS => ?_)
    have wr_4 : r_4 = bi ((0 : Int32) ≤ n3 ∧ n3 ≤ 2000000000) := isIn32 (lo := 0) (hi := 2000000000) (by decide) (by decide) wr_4
    subst wr_4
    refine lv_bi_eq (tgt := 27) hx hb dX12_depth_16 (by decide) (fun c_5 => ?_) (fun c_5 => ?_)
    · refine lv_iconst (v := (-1)) hx hb dX12_depth_27 (by decide) ?_
      exact W.iret (v := (-1)) hx hb hr (fun t ht hW => ⟨⟨((-1) : Int32), (), rfl, (lf_X12_depth_6 h q i n1 n2 n3 h3 c_2 c_5), bx0⟩, hS.F ht⟩) hS.2.2 dX12_depth_28 hlocks
    · refine lv_aload_n hx hb dX12_depth_19 rfl (lv_at hl 0 rfl) ?_
      refine lv_iload_n hx hb dX12_depth_20 rfl (lv_at hl 2 rfl) ?_
      refine eRi (va_runV (As := [.int n2]) (rest := []) ⟨hx, hb, hml, hown, hts⟩ (c_X12_areBent l D cI cB cZ cJ tx h q i n2 h3 H.size) (zV hts k_2057 v_X12_areBent ⟨Nat.le_of_ble_eq_true rfl, Nat.le_of_ble_eq_true rfl⟩) (pV (px1 hK hP 0 rfl) hK hP 0 rfl rfl) rfl rfl hl.1 rfl (lv_room (Nat.le_of_ble_eq_true rfl)) dX12_depth_21 ⟨Nat.le_of_ble_eq_true rfl, Nat.le_of_ble_eq_true rfl⟩) hP hS hA (fun r_7 H locs wr_7 hP hS => ?_)
      subst wr_7
      refine lv_if_ne (tgt := 29) hx hb dX12_depth_24 (by decide) (fun c => absurd c (by decide)) (fun _ => ?_)
      refine lv_iconst (v := (-1)) hx hb dX12_depth_27 (by decide) ?_
      exact W.iret (v := (-1)) hx hb hr (fun t ht hW => ⟨⟨((-1) : Int32), (), rfl, (lf_X12_depth_8 h q i n1 n2 n3 h3 c_2 c_5), bx0⟩, hS.F ht⟩) hS.2.2 dX12_depth_28 hlocks

theorem lf_X12_pace_1 (h : Nat) (q : Nat → Nat) (i : Nat → Int32) (n1 : Int32) (h2 : i 2 = 0) : ((-1) : Int32) = -1 := by
  first | rfl | (simp only [bi]; rw [if_pos (by grind)]; done) | (simp only [bi]; rw [if_neg (by grind)]; done) | grind
set_option maxHeartbeats 4000000 in
set_option maxRecDepth 100000 in
theorem c_X12_pace (l : Launch) (D : va_G) (cI cB cZ cJ : ClassId) (tx : List (ClassId × FieldType)) (h : Nat) (q : Nat → Nat) (i : Nat → Int32) (n1 : Int32) (h2 : i 2 = 0) : WrI l D cI cB cZ cJ tx yX12_pace cX12_pace 2 (some .int) 1 0 0 [.ref h, .int n1] [(h, .inr (12, mG q i))] (fun (r : Int32) (_ : Unit) => r = -1) (fun _ => []) := by
  refine wri_of2 (by decide) (Nat.le_of_ble_eq_true rfl) ?_
  intro p e s m below meth c A ls H locs hC hK hP hD hA hS hl
  obtain ⟨hx, hb, hr, hml, hown, hts, hlocks, hin⟩ := hC
  have hown : s.vm.findClass RX12 = some m.cls := hown
  have hl : lv_has ls 2 [(0, .ref h), (1, .int n1)] := hl
  refine lv_aload_n hx hb dX12_pace_0 rfl (lv_at hl 0 rfl) ?_
  refine va_get (D := D) (ci := 12) (v := .int (i 2)) (C := RX12) (T := TX12) (N := 81) hx hb hts inT_X12 hown hK.1 hP 0 rfl rfl 2 (by decide) (hts _ k_1355) (fun _ h9 => h9) rfl dX12_pace_1 ?_
  refine lv_topv (y := 0) h2 ?_
  refine lv_if_le (tgt := 41) hx hb dX12_pace_4 (by decide) (fun _ => ?_) (fun c => absurd c (by decide))
  refine lv_iconst (v := (-1)) hx hb dX12_pace_41 (by decide) ?_
  exact W.iret (v := (-1)) hx hb hr (fun t ht hW => ⟨⟨((-1) : Int32), (), rfl, (lf_X12_pace_1 h q i n1 h2), bx0⟩, hS.F ht⟩) hS.2.2 dX12_pace_42 hlocks

theorem lf_X12_length_2 (h : Nat) (q : Nat → Nat) (i : Nat → Int32) (n1 : Int32) (n2 : Int32) (h3 : i 3 = 0) : ((-1) : Int32) = -1 := by
  first | rfl | (simp only [bi]; rw [if_pos (by grind)]; done) | (simp only [bi]; rw [if_neg (by grind)]; done) | grind
set_option maxHeartbeats 4000000 in
set_option maxRecDepth 100000 in
theorem c_X12_length (l : Launch) (D : va_G) (cI cB cZ cJ : ClassId) (tx : List (ClassId × FieldType)) (h : Nat) (q : Nat → Nat) (i : Nat → Int32) (n1 : Int32) (n2 : Int32) (h3 : i 3 = 0) : WrI l D cI cB cZ cJ tx yX12_length cX12_length 3 (some .int) 3 0 0 [.ref h, .int n1, .int n2] [(h, .inr (12, mG q i))] (fun (r : Int32) (_ : Unit) => r = -1) (fun _ => []) := by
  refine wri_of2 (by decide) (Nat.le_of_ble_eq_true rfl) ?_
  intro p e s m below meth c A ls H locs hC hK hP hD hA hS hl
  obtain ⟨hx, hb, hr, hml, hown, hts, hlocks, hin⟩ := hC
  have hown : s.vm.findClass RX12 = some m.cls := hown
  have hl : lv_has ls 3 [(0, .ref h), (1, .int n1), (2, .int n2)] := hl
  refine lv_aload_n hx hb dX12_length_0 rfl (lv_at hl 0 rfl) ?_
  refine lv_iload_n hx hb dX12_length_1 rfl (lv_at hl 1 rfl) ?_
  refine lv_iload_n hx hb dX12_length_2 rfl (lv_at hl 2 rfl) ?_
  refine eRi (va_runV (As := [.int n1, .int n2]) (rest := []) ⟨hx, hb, hml, hown, hts⟩ (c_X12_isBent l D cI cB cZ cJ tx h q i n1 n2 h3 H.size) (zV hts k_1931 v_X12_isBent ⟨Nat.le_of_ble_eq_true rfl, Nat.le_of_ble_eq_true rfl⟩) (pV (px1 hK hP 0 rfl) hK hP 0 rfl rfl) rfl rfl hl.1 rfl (lv_room (Nat.le_of_ble_eq_true rfl)) dX12_length_3 ⟨Nat.le_of_ble_eq_true rfl, Nat.le_of_ble_eq_true rfl⟩) hP hS hA (fun r_1 H locs wr_1 hP hS => ?_)
  subst wr_1
  refine lv_if_eq (tgt := 24) hx hb dX12_length_6 (by decide) (fun _ => ?_) (fun c => absurd c (by decide))
  refine lv_iconst (v := (-1)) hx hb dX12_length_24 (by decide) ?_
  exact W.iret (v := (-1)) hx hb hr (fun t ht hW => ⟨⟨((-1) : Int32), (), rfl, (lf_X12_length_2 h q i n1 n2 h3), bx0⟩, hS.F ht⟩) hS.2.2 dX12_length_25 hlocks

theorem lf_X12_joints_2 (h : Nat) (q : Nat → Nat) (i : Nat → Int32) (n1 : Int32) (n2 : Int32) (n3 : Int32) (n4 : Int32) (h3 : i 3 = 0) : ((-3) : Int32) = -3 := by
  first | rfl | (simp only [bi]; rw [if_pos (by grind)]; done) | (simp only [bi]; rw [if_neg (by grind)]; done) | grind
set_option maxHeartbeats 4000000 in
set_option maxRecDepth 100000 in
theorem c_X12_joints (l : Launch) (D : va_G) (cI cB cZ cJ : ClassId) (tx : List (ClassId × FieldType)) (h : Nat) (q : Nat → Nat) (i : Nat → Int32) (n1 : Int32) (n2 : Int32) (n3 : Int32) (n4 : Int32) (h3 : i 3 = 0) : WrI l D cI cB cZ cJ tx yX12_joints cX12_joints 7 (some .int) 2 0 0 [.ref h, .int n1, .int n2, .int n3, .int n4] [(h, .inr (12, mG q i))] (fun (r : Int32) (_ : Unit) => r = -3) (fun _ => []) := by
  refine wri_of2 (by decide) (Nat.le_of_ble_eq_true rfl) ?_
  intro p e s m below meth c A ls H locs hC hK hP hD hA hS hl
  obtain ⟨hx, hb, hr, hml, hown, hts, hlocks, hin⟩ := hC
  have hown : s.vm.findClass RX12 = some m.cls := hown
  have hl : lv_has ls 7 [(0, .ref h), (1, .int n1), (2, .int n2), (3, .int n3), (4, .int n4)] := hl
  refine lv_aload_n hx hb dX12_joints_0 rfl (lv_at hl 0 rfl) ?_
  refine lv_iload_n hx hb dX12_joints_1 rfl (lv_at hl 1 rfl) ?_
  refine eRi (va_runV (As := [.int n1]) (rest := []) ⟨hx, hb, hml, hown, hts⟩ (c_X12_isStrake l D cI cB cZ cJ tx h q i n1 h3 H.size) (zV hts k_1807 v_X12_isStrake ⟨Nat.le_of_ble_eq_true rfl, Nat.le_of_ble_eq_true rfl⟩) (pV (px1 hK hP 0 rfl) hK hP 0 rfl rfl) rfl rfl hl.1 rfl (lv_room (Nat.le_of_ble_eq_true rfl)) dX12_joints_2 ⟨Nat.le_of_ble_eq_true rfl, Nat.le_of_ble_eq_true rfl⟩) hP hS hA (fun r_1 H locs wr_1 hP hS => ?_)
  subst wr_1
  refine lv_if_eq (tgt := 33) hx hb dX12_joints_5 (by decide) (fun _ => ?_) (fun c => absurd c (by decide))
  refine lv_bipush (v := (-3)) hx hb dX12_joints_33 (by decide) ?_
  exact W.iret (v := (-3)) hx hb hr (fun t ht hW => ⟨⟨((-3) : Int32), (), rfl, (lf_X12_joints_2 h q i n1 n2 n3 n4 h3), bx0⟩, hS.F ht⟩) hS.2.2 dX12_joints_35 hlocks

theorem lf_X12_check_2 (h : Nat) (q : Nat → Nat) (i : Nat → Int32) (n1 : Int32) (n2 : Int32) (n3 : Int32) (h3 : i 3 = 0) : ((-2) : Int32) = -2 := by
  first | rfl | (simp only [bi]; rw [if_pos (by grind)]; done) | (simp only [bi]; rw [if_neg (by grind)]; done) | grind
set_option maxHeartbeats 4000000 in
set_option maxRecDepth 100000 in
theorem c_X12_check (l : Launch) (D : va_G) (cI cB cZ cJ : ClassId) (tx : List (ClassId × FieldType)) (h : Nat) (q : Nat → Nat) (i : Nat → Int32) (n1 : Int32) (n2 : Int32) (n3 : Int32) (h3 : i 3 = 0) : WrI l D cI cB cZ cJ tx yX12_check cX12_check 5 (some .int) 3 0 0 [.ref h, .int n1, .int n2, .int n3] [(h, .inr (12, mG q i))] (fun (r : Int32) (_ : Unit) => r = -2) (fun _ => []) := by
  refine wri_of2 (by decide) (Nat.le_of_ble_eq_true rfl) ?_
  intro p e s m below meth c A ls H locs hC hK hP hD hA hS hl
  obtain ⟨hx, hb, hr, hml, hown, hts, hlocks, hin⟩ := hC
  have hown : s.vm.findClass RX12 = some m.cls := hown
  have hl : lv_has ls 5 [(0, .ref h), (1, .int n1), (2, .int n2), (3, .int n3)] := hl
  refine lv_aload_n hx hb dX12_check_0 rfl (lv_at hl 0 rfl) ?_
  refine lv_iload_n hx hb dX12_check_1 rfl (lv_at hl 1 rfl) ?_
  refine lv_iload_n hx hb dX12_check_2 rfl (lv_at hl 2 rfl) ?_
  refine eRi (va_runV (As := [.int n1, .int n2]) (rest := []) ⟨hx, hb, hml, hown, hts⟩ (c_X12_isBent l D cI cB cZ cJ tx h q i n1 n2 h3 H.size) (zV hts k_1931 v_X12_isBent ⟨Nat.le_of_ble_eq_true rfl, Nat.le_of_ble_eq_true rfl⟩) (pV (px1 hK hP 0 rfl) hK hP 0 rfl rfl) rfl rfl hl.1 rfl (lv_room (Nat.le_of_ble_eq_true rfl)) dX12_check_3 ⟨Nat.le_of_ble_eq_true rfl, Nat.le_of_ble_eq_true rfl⟩) hP hS hA (fun r_1 H locs wr_1 hP hS => ?_)
  subst wr_1
  refine lv_if_eq (tgt := 23) hx hb dX12_check_6 (by decide) (fun _ => ?_) (fun c => absurd c (by decide))
  refine lv_bipush (v := (-2)) hx hb dX12_check_23 (by decide) ?_
  exact W.iret (v := (-2)) hx hb hr (fun t ht hW => ⟨⟨((-2) : Int32), (), rfl, (lf_X12_check_2 h q i n1 n2 n3 h3), bx0⟩, hS.F ht⟩) hS.2.2 dX12_check_25 hlocks

theorem lf_X12_count_4 (h : Nat) (q : Nat → Nat) (i : Nat → Int32) (n1 : Int32) (h2 : i 2 = 0) (h3 : i 3 = 0) (h50 : i 50 = 0) (h1 : i 1 = 0) (h5 : i 5 = 1) (x_1 : Int32) (ex_1 : x_1 = n1 - 10) (c_3 : n1 = 0) : (0 : Int32) = sp_count n1 := by
  subst_vars
  first | decide | (unfold sp_count; grind)
theorem lf_X12_count_6 (h : Nat) (q : Nat → Nat) (i : Nat → Int32) (n1 : Int32) (h2 : i 2 = 0) (h3 : i 3 = 0) (h50 : i 50 = 0) (h1 : i 1 = 0) (h5 : i 5 = 1) (x_1 : Int32) (ex_1 : x_1 = n1 - 10) (c_3 : ¬ n1 = 0) (c_5 : n1 = 1) : (0 : Int32) = sp_count n1 := by
  subst_vars
  first | decide | (unfold sp_count; grind)
theorem lf_X12_count_9 (h : Nat) (q : Nat → Nat) (i : Nat → Int32) (n1 : Int32) (h2 : i 2 = 0) (h3 : i 3 = 0) (h50 : i 50 = 0) (h1 : i 1 = 0) (h5 : i 5 = 1) (x_1 : Int32) (ex_1 : x_1 = n1 - 10) (c_3 : ¬ n1 = 0) (c_5 : ¬ n1 = 1) (c_7 : n1 = 2) : (0 : Int32) = sp_count n1 := by
  subst_vars
  first | decide | (unfold sp_count; grind)
theorem lf_X12_count_11 (h : Nat) (q : Nat → Nat) (i : Nat → Int32) (n1 : Int32) (h2 : i 2 = 0) (h3 : i 3 = 0) (h50 : i 50 = 0) (h1 : i 1 = 0) (h5 : i 5 = 1) (x_1 : Int32) (ex_1 : x_1 = n1 - 10) (c_3 : ¬ n1 = 0) (c_5 : ¬ n1 = 1) (c_7 : ¬ n1 = 2) (c_10 : n1 = 3) : (1 : Int32) = sp_count n1 := by
  subst_vars
  first | decide | (unfold sp_count; grind)
theorem lf_X12_count_13 (h : Nat) (q : Nat → Nat) (i : Nat → Int32) (n1 : Int32) (h2 : i 2 = 0) (h3 : i 3 = 0) (h50 : i 50 = 0) (h1 : i 1 = 0) (h5 : i 5 = 1) (x_1 : Int32) (ex_1 : x_1 = n1 - 10) (c_3 : ¬ n1 = 0) (c_5 : ¬ n1 = 1) (c_7 : ¬ n1 = 2) (c_10 : ¬ n1 = 3) (c_12 : n1 = 4) : (0 : Int32) = sp_count n1 := by
  subst_vars
  first | decide | (unfold sp_count; grind)
theorem lf_X12_count_15 (h : Nat) (q : Nat → Nat) (i : Nat → Int32) (n1 : Int32) (h2 : i 2 = 0) (h3 : i 3 = 0) (h50 : i 50 = 0) (h1 : i 1 = 0) (h5 : i 5 = 1) (x_1 : Int32) (ex_1 : x_1 = n1 - 10) (c_3 : ¬ n1 = 0) (c_5 : ¬ n1 = 1) (c_7 : ¬ n1 = 2) (c_10 : ¬ n1 = 3) (c_12 : ¬ n1 = 4) (c_14 : n1 = 5) : (0 : Int32) = sp_count n1 := by
  subst_vars
  first | decide | (unfold sp_count; grind)
theorem lf_X12_count_17 (h : Nat) (q : Nat → Nat) (i : Nat → Int32) (n1 : Int32) (h2 : i 2 = 0) (h3 : i 3 = 0) (h50 : i 50 = 0) (h1 : i 1 = 0) (h5 : i 5 = 1) (x_1 : Int32) (ex_1 : x_1 = n1 - 10) (c_3 : ¬ n1 = 0) (c_5 : ¬ n1 = 1) (c_7 : ¬ n1 = 2) (c_10 : ¬ n1 = 3) (c_12 : ¬ n1 = 4) (c_14 : ¬ n1 = 5) (c_16 : n1 = 6) : (0 : Int32) = sp_count n1 := by
  subst_vars
  first | decide | (unfold sp_count; grind)
theorem lf_X12_count_19 (h : Nat) (q : Nat → Nat) (i : Nat → Int32) (n1 : Int32) (h2 : i 2 = 0) (h3 : i 3 = 0) (h50 : i 50 = 0) (h1 : i 1 = 0) (h5 : i 5 = 1) (x_1 : Int32) (ex_1 : x_1 = n1 - 10) (c_3 : ¬ n1 = 0) (c_5 : ¬ n1 = 1) (c_7 : ¬ n1 = 2) (c_10 : ¬ n1 = 3) (c_12 : ¬ n1 = 4) (c_14 : ¬ n1 = 5) (c_16 : ¬ n1 = 6) (c_18 : n1 = 7) : (0 : Int32) = sp_count n1 := by
  subst_vars
  first | decide | (unfold sp_count; grind)
theorem lf_X12_count_21 (h : Nat) (q : Nat → Nat) (i : Nat → Int32) (n1 : Int32) (h2 : i 2 = 0) (h3 : i 3 = 0) (h50 : i 50 = 0) (h1 : i 1 = 0) (h5 : i 5 = 1) (x_1 : Int32) (ex_1 : x_1 = n1 - 10) (c_3 : ¬ n1 = 0) (c_5 : ¬ n1 = 1) (c_7 : ¬ n1 = 2) (c_10 : ¬ n1 = 3) (c_12 : ¬ n1 = 4) (c_14 : ¬ n1 = 5) (c_16 : ¬ n1 = 6) (c_18 : ¬ n1 = 7) (c_20 : n1 = 8) : (0 : Int32) = sp_count n1 := by
  subst_vars
  first | decide | (unfold sp_count; grind)
theorem lf_X12_count_24 (h : Nat) (q : Nat → Nat) (i : Nat → Int32) (n1 : Int32) (h2 : i 2 = 0) (h3 : i 3 = 0) (h50 : i 50 = 0) (h1 : i 1 = 0) (h5 : i 5 = 1) (x_1 : Int32) (ex_1 : x_1 = n1 - 10) (c_3 : ¬ n1 = 0) (c_5 : ¬ n1 = 1) (c_7 : ¬ n1 = 2) (c_10 : ¬ n1 = 3) (c_12 : ¬ n1 = 4) (c_14 : ¬ n1 = 5) (c_16 : ¬ n1 = 6) (c_18 : ¬ n1 = 7) (c_20 : ¬ n1 = 8) (c_22 : n1 = 9) : (0 : Int32) = sp_count n1 := by
  subst_vars
  first | decide | (unfold sp_count; grind)
theorem lf_X12_count_25 (h : Nat) (q : Nat → Nat) (i : Nat → Int32) (n1 : Int32) (h2 : i 2 = 0) (h3 : i 3 = 0) (h50 : i 50 = 0) (h1 : i 1 = 0) (h5 : i 5 = 1) (x_1 : Int32) (ex_1 : x_1 = n1 - 10) (c_3 : ¬ n1 = 0) (c_5 : ¬ n1 = 1) (c_7 : ¬ n1 = 2) (c_10 : ¬ n1 = 3) (c_12 : ¬ n1 = 4) (c_14 : ¬ n1 = 5) (c_16 : ¬ n1 = 6) (c_18 : ¬ n1 = 7) (c_20 : ¬ n1 = 8) (c_22 : ¬ n1 = 9) : n1.toInt < 0 ∨ 9 < n1.toInt := by
  have e : ∀ k : Int32, ¬ n1 = k → n1.toInt ≠ k.toInt := fun k h q => h (Int32.toInt_inj.mp q)
  have e0 := e 0 ‹¬ n1 = 0›
  have z0 : (0 : Int32).toInt = 0 := by decide
  have e1 := e 1 ‹¬ n1 = 1›
  have z1 : (1 : Int32).toInt = 1 := by decide
  have e2 := e 2 ‹¬ n1 = 2›
  have z2 : (2 : Int32).toInt = 2 := by decide
  have e3 := e 3 ‹¬ n1 = 3›
  have z3 : (3 : Int32).toInt = 3 := by decide
  have e4 := e 4 ‹¬ n1 = 4›
  have z4 : (4 : Int32).toInt = 4 := by decide
  have e5 := e 5 ‹¬ n1 = 5›
  have z5 : (5 : Int32).toInt = 5 := by decide
  have e6 := e 6 ‹¬ n1 = 6›
  have z6 : (6 : Int32).toInt = 6 := by decide
  have e7 := e 7 ‹¬ n1 = 7›
  have z7 : (7 : Int32).toInt = 7 := by decide
  have e8 := e 8 ‹¬ n1 = 8›
  have z8 : (8 : Int32).toInt = 8 := by decide
  have e9 := e 9 ‹¬ n1 = 9›
  have z9 : (9 : Int32).toInt = 9 := by decide
  omega
theorem lf_X12_count_26 (h : Nat) (q : Nat → Nat) (i : Nat → Int32) (n1 : Int32) (h2 : i 2 = 0) (h3 : i 3 = 0) (h50 : i 50 = 0) (h1 : i 1 = 0) (h5 : i 5 = 1) (x_1 : Int32) (ex_1 : x_1 = n1 - 10) (c_3 : ¬ n1 = 0) (c_5 : ¬ n1 = 1) (c_7 : ¬ n1 = 2) (c_10 : ¬ n1 = 3) (c_12 : ¬ n1 = 4) (c_14 : ¬ n1 = 5) (c_16 : ¬ n1 = 6) (c_18 : ¬ n1 = 7) (c_20 : ¬ n1 = 8) (c_22 : ¬ n1 = 9) : ((-1) : Int32) = sp_count n1 := by
  subst_vars
  first | decide | (unfold sp_count; grind)
set_option maxHeartbeats 4000000 in
set_option maxRecDepth 100000 in
theorem c_X12_count (l : Launch) (D : va_G) (cI cB cZ cJ : ClassId) (tx : List (ClassId × FieldType)) (h : Nat) (q : Nat → Nat) (i : Nat → Int32) (n1 : Int32) (h2 : i 2 = 0) (h3 : i 3 = 0) (h50 : i 50 = 0) (h1 : i 1 = 0) (h5 : i 5 = 1) : WrI l D cI cB cZ cJ tx yX12_count cX12_count 2 (some .int) 2 0 0 [.ref h, .int n1] [(h, .inr (12, mG q i)), (q 6, .inl (cI, 3, .inl (fun _ => 0))), (q 76, .inl (cZ, 6, .inl (fun _ => 0)))] (fun (r : Int32) (_ : Unit) => r = sp_count n1) (fun _ => []) := by
  refine wri_of2 (by decide) (Nat.le_of_ble_eq_true rfl) ?_
  intro p e s m below meth c A ls H locs hC hK hP hD hA hS hl
  obtain ⟨hx, hb, hr, hml, hown, hts, hlocks, hin⟩ := hC
  have hown : s.vm.findClass RX12 = some m.cls := hown
  have hl : lv_has ls 2 [(0, .ref h), (1, .int n1)] := hl
  refine lv_aload_n hx hb dX12_count_0 rfl (lv_at hl 0 rfl) ?_
  refine lv_iload_n hx hb dX12_count_1 rfl (lv_at hl 1 rfl) ?_
  refine lv_bipush (v := 10) hx hb dX12_count_2 (by decide) ?_
  refine lv_isub hx hb dX12_count_4 ?_
  refine lv_topi (fun x_1 ex_1 => ?_)
  refine eRi (va_runV (As := [.int x_1]) (rest := []) ⟨hx, hb, hml, hown, hts⟩ (c_X12_isDrawing l D cI cB cZ cJ tx h q i x_1 h50 H.size) (zV hts k_1841 v_X12_isDrawing ⟨Nat.le_of_ble_eq_true rfl, Nat.le_of_ble_eq_true rfl⟩) (pV (px1 hK hP 0 rfl) hK hP 0 rfl rfl) rfl rfl hl.1 rfl (lv_room (Nat.le_of_ble_eq_true rfl)) dX12_count_5 ⟨Nat.le_of_ble_eq_true rfl, Nat.le_of_ble_eq_true rfl⟩) hP hS hA (fun r_2 H locs wr_2 hP hS => ?_)
  subst wr_2
  refine lv_if_eq (tgt := 20) hx hb dX12_count_8 (by decide) (fun _ => ?_) (fun c => absurd c (by decide))
  refine lv_iload_n hx hb dX12_count_20 rfl (lv_at hl 1 rfl) ?_
  by_cases c_3 : n1 = 0
  · subst c_3
    refine lv_tableIn (off := 55) (tgt := 76) hx hb dX12_count_21 (by decide) (by decide) rfl (by decide) ?_
    refine lv_aload_n hx hb dX12_count_76 rfl (lv_at hl 0 rfl) ?_
    refine va_get (D := D) (ci := 12) (v := .int (i 2)) (C := RX12) (T := TX12) (N := 81) hx hb hts inT_X12 hown hK.1 hP 0 rfl rfl 2 (by decide) (hts _ k_1355) (fun _ h9 => h9) rfl dX12_count_77 ?_
    refine lv_topv (y := 0) h2 ?_
    exact W.iret (v := 0) hx hb hr (fun t ht hW => ⟨⟨(0 : Int32), (), rfl, (lf_X12_count_4 h q i 0 h2 h3 h50 h1 h5 x_1 ex_1 rfl), bx0⟩, hS.F ht⟩) hS.2.2 dX12_count_80 hlocks
  by_cases c_5 : n1 = 1
  · subst c_5
    refine lv_tableIn (off := 60) (tgt := 81) hx hb dX12_count_21 (by decide) (by decide) rfl (by decide) ?_
    refine lv_aload_n hx hb dX12_count_81 rfl (lv_at hl 0 rfl) ?_
    refine va_get (D := D) (ci := 12) (v := .int (i 3)) (C := RX12) (T := TX12) (N := 81) hx hb hts inT_X12 hown hK.1 hP 0 rfl rfl 3 (by decide) (hts _ k_1356) (fun _ h9 => h9) rfl dX12_count_82 ?_
    refine lv_topv (y := 0) h3 ?_
    exact W.iret (v := 0) hx hb hr (fun t ht hW => ⟨⟨(0 : Int32), (), rfl, (lf_X12_count_6 h q i 1 h2 h3 h50 h1 h5 x_1 ex_1 c_3 rfl), bx0⟩, hS.F ht⟩) hS.2.2 dX12_count_85 hlocks
  by_cases c_7 : n1 = 2
  · subst c_7
    refine lv_tableIn (off := 65) (tgt := 86) hx hb dX12_count_21 (by decide) (by decide) rfl (by decide) ?_
    refine lv_aload_n hx hb dX12_count_86 rfl (lv_at hl 0 rfl) ?_
    refine eRi (va_runV (As := []) (rest := []) ⟨hx, hb, hml, hown, hts⟩ (c_X12_left l D cI cB cZ cJ tx h q i h2 H.size) (zV hts k_1791 v_X12_left ⟨Nat.le_of_ble_eq_true rfl, Nat.le_of_ble_eq_true rfl⟩) (pV (px1 hK hP 0 rfl) hK hP 0 rfl rfl) rfl rfl hl.1 rfl (lv_room (Nat.le_of_ble_eq_true rfl)) dX12_count_87 ⟨Nat.le_of_ble_eq_true rfl, Nat.le_of_ble_eq_true rfl⟩) hP hS hA (fun r_8 H locs wr_8 hP hS => ?_)
    subst wr_8
    exact W.iret (v := 0) hx hb hr (fun t ht hW => ⟨⟨(0 : Int32), (), rfl, (lf_X12_count_9 h q i 2 h2 h3 h50 h1 h5 x_1 ex_1 c_3 c_5 rfl), bx0⟩, hS.F ht⟩) hS.2.2 dX12_count_90 hlocks
  by_cases c_10 : n1 = 3
  · subst c_10
    refine lv_tableIn (off := 70) (tgt := 91) hx hb dX12_count_21 (by decide) (by decide) rfl (by decide) ?_
    refine lv_aload_n hx hb dX12_count_91 rfl (lv_at hl 0 rfl) ?_
    refine va_get (D := D) (ci := 12) (v := .int (i 5)) (C := RX12) (T := TX12) (N := 81) hx hb hts inT_X12 hown hK.1 hP 0 rfl rfl 5 (by decide) (hts _ k_1358) (fun _ h9 => h9) rfl dX12_count_92 ?_
    refine lv_topv (y := 1) h5 ?_
    exact W.iret (v := 1) hx hb hr (fun t ht hW => ⟨⟨(1 : Int32), (), rfl, (lf_X12_count_11 h q i 3 h2 h3 h50 h1 h5 x_1 ex_1 c_3 c_5 c_7 rfl), bx0⟩, hS.F ht⟩) hS.2.2 dX12_count_95 hlocks
  by_cases c_12 : n1 = 4
  · subst c_12
    refine lv_tableIn (off := 75) (tgt := 96) hx hb dX12_count_21 (by decide) (by decide) rfl (by decide) ?_
    refine lv_aload_n hx hb dX12_count_96 rfl (lv_at hl 0 rfl) ?_
    refine va_get (D := D) (ci := 12) (v := .int (i 1)) (C := RX12) (T := TX12) (N := 81) hx hb hts inT_X12 hown hK.1 hP 0 rfl rfl 1 (by decide) (hts _ k_1354) (fun _ h9 => h9) rfl dX12_count_97 ?_
    refine lv_topv (y := 0) h1 ?_
    exact W.iret (v := 0) hx hb hr (fun t ht hW => ⟨⟨(0 : Int32), (), rfl, (lf_X12_count_13 h q i 4 h2 h3 h50 h1 h5 x_1 ex_1 c_3 c_5 c_7 c_10 rfl), bx0⟩, hS.F ht⟩) hS.2.2 dX12_count_100 hlocks
  by_cases c_14 : n1 = 5
  · subst c_14
    refine lv_tableIn (off := 80) (tgt := 101) hx hb dX12_count_21 (by decide) (by decide) rfl (by decide) ?_
    refine lv_aload_n hx hb dX12_count_101 rfl (lv_at hl 0 rfl) ?_
    refine va_get (D := D) (ci := 12) (v := .ref (q 6)) (C := RX12) (T := TX12) (N := 81) hx hb hts inT_X12 hown hK.1 hP 0 rfl rfl 6 (by decide) (hts _ k_1359) (fun _ h9 => h9) rfl dX12_count_102 ?_
    refine lv_iconst (v := 0) hx hb dX12_count_105 (by decide) ?_
    refine l0_i hx hb hK hP 1 rfl (by unfold vp_in; decide) dX12_count_106 ?_
    exact W.iret (v := 0) hx hb hr (fun t ht hW => ⟨⟨(0 : Int32), (), rfl, (lf_X12_count_15 h q i 5 h2 h3 h50 h1 h5 x_1 ex_1 c_3 c_5 c_7 c_10 c_12 rfl), bx0⟩, hS.F ht⟩) hS.2.2 dX12_count_107 hlocks
  by_cases c_16 : n1 = 6
  · subst c_16
    refine lv_tableIn (off := 87) (tgt := 108) hx hb dX12_count_21 (by decide) (by decide) rfl (by decide) ?_
    refine lv_aload_n hx hb dX12_count_108 rfl (lv_at hl 0 rfl) ?_
    refine va_get (D := D) (ci := 12) (v := .ref (q 6)) (C := RX12) (T := TX12) (N := 81) hx hb hts inT_X12 hown hK.1 hP 0 rfl rfl 6 (by decide) (hts _ k_1359) (fun _ h9 => h9) rfl dX12_count_109 ?_
    refine lv_iconst (v := 1) hx hb dX12_count_112 (by decide) ?_
    refine l0_i hx hb hK hP 1 rfl (by unfold vp_in; decide) dX12_count_113 ?_
    exact W.iret (v := 0) hx hb hr (fun t ht hW => ⟨⟨(0 : Int32), (), rfl, (lf_X12_count_17 h q i 6 h2 h3 h50 h1 h5 x_1 ex_1 c_3 c_5 c_7 c_10 c_12 c_14 rfl), bx0⟩, hS.F ht⟩) hS.2.2 dX12_count_114 hlocks
  by_cases c_18 : n1 = 7
  · subst c_18
    refine lv_tableIn (off := 94) (tgt := 115) hx hb dX12_count_21 (by decide) (by decide) rfl (by decide) ?_
    refine lv_aload_n hx hb dX12_count_115 rfl (lv_at hl 0 rfl) ?_
    refine va_get (D := D) (ci := 12) (v := .ref (q 6)) (C := RX12) (T := TX12) (N := 81) hx hb hts inT_X12 hown hK.1 hP 0 rfl rfl 6 (by decide) (hts _ k_1359) (fun _ h9 => h9) rfl dX12_count_116 ?_
    refine lv_iconst (v := 2) hx hb dX12_count_119 (by decide) ?_
    refine l0_i hx hb hK hP 1 rfl (by unfold vp_in; decide) dX12_count_120 ?_
    exact W.iret (v := 0) hx hb hr (fun t ht hW => ⟨⟨(0 : Int32), (), rfl, (lf_X12_count_19 h q i 7 h2 h3 h50 h1 h5 x_1 ex_1 c_3 c_5 c_7 c_10 c_12 c_14 c_16 rfl), bx0⟩, hS.F ht⟩) hS.2.2 dX12_count_121 hlocks
  by_cases c_20 : n1 = 8
  · subst c_20
    refine lv_tableIn (off := 101) (tgt := 122) hx hb dX12_count_21 (by decide) (by decide) rfl (by decide) ?_
    refine lv_aload_n hx hb dX12_count_122 rfl (lv_at hl 0 rfl) ?_
    refine va_get (D := D) (ci := 12) (v := .int (i 50)) (C := RX12) (T := TX12) (N := 81) hx hb hts inT_X12 hown hK.1 hP 0 rfl rfl 50 (by decide) (hts _ k_1403) (fun _ h9 => h9) rfl dX12_count_123 ?_
    refine lv_topv (y := 0) h50 ?_
    exact W.iret (v := 0) hx hb hr (fun t ht hW => ⟨⟨(0 : Int32), (), rfl, (lf_X12_count_21 h q i 8 h2 h3 h50 h1 h5 x_1 ex_1 c_3 c_5 c_7 c_10 c_12 c_14 c_16 c_18 rfl), bx0⟩, hS.F ht⟩) hS.2.2 dX12_count_126 hlocks
  by_cases c_22 : n1 = 9
  · subst c_22
    refine lv_tableIn (off := 106) (tgt := 127) hx hb dX12_count_21 (by decide) (by decide) rfl (by decide) ?_
    refine lv_aload_n hx hb dX12_count_127 rfl (lv_at hl 0 rfl) ?_
    refine eRi (va_runV (As := []) (rest := []) ⟨hx, hb, hml, hown, hts⟩ (c_X12_storiesTold l D cI cB cZ cJ tx h q i H.size) (zV hts k_2042 v_X12_storiesTold ⟨Nat.le_of_ble_eq_true rfl, Nat.le_of_ble_eq_true rfl⟩) (pV (pxS hK hP hD [0, 2] (by decide) rfl) hK hP 0 rfl rfl) rfl rfl hl.1 rfl (lv_room (Nat.le_of_ble_eq_true rfl)) dX12_count_128 ⟨Nat.le_of_ble_eq_true rfl, Nat.le_of_ble_eq_true rfl⟩) hP hS hA (fun r_23 H locs wr_23 hP hS => ?_)
    subst wr_23
    exact W.iret (v := 0) hx hb hr (fun t ht hW => ⟨⟨(0 : Int32), (), rfl, (lf_X12_count_24 h q i 9 h2 h3 h50 h1 h5 x_1 ex_1 c_3 c_5 c_7 c_10 c_12 c_14 c_16 c_18 c_20 rfl), bx0⟩, hS.F ht⟩) hS.2.2 dX12_count_131 hlocks
  refine lv_tableOut (tgt := 132) hx hb dX12_count_21 (lf_X12_count_25 h q i n1 h2 h3 h50 h1 h5 x_1 ex_1 c_3 c_5 c_7 c_10 c_12 c_14 c_16 c_18 c_20 c_22) (by decide) ?_
  refine lv_iconst (v := (-1)) hx hb dX12_count_132 (by decide) ?_
  exact W.iret (v := (-1)) hx hb hr (fun t ht hW => ⟨⟨((-1) : Int32), (), rfl, (lf_X12_count_26 h q i n1 h2 h3 h50 h1 h5 x_1 ex_1 c_3 c_5 c_7 c_10 c_12 c_14 c_16 c_18 c_20 c_22), bx0⟩, hS.F ht⟩) hS.2.2 dX12_count_133 hlocks
