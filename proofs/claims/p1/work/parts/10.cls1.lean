theorem lf_X11_within_2 (n : Int32) (lo : Int32) (hi : Int32) (c_1 : n < lo) : (0 : Int32) = bi (lo ≤ n ∧ n ≤ hi) := by
  first | rfl | (simp only [bi]; rw [if_pos (by grind)]; done) | (simp only [bi]; rw [if_neg (by grind)]; done) | grind
theorem lf_X11_within_4 (n : Int32) (lo : Int32) (hi : Int32) (c_1 : ¬ n < lo) (c_3 : hi < n) : (0 : Int32) = bi (lo ≤ n ∧ n ≤ hi) := by
  first | rfl | (simp only [bi]; rw [if_pos (by grind)]; done) | (simp only [bi]; rw [if_neg (by grind)]; done) | grind
theorem lf_X11_within_5 (n : Int32) (lo : Int32) (hi : Int32) (c_1 : ¬ n < lo) (c_3 : ¬ hi < n) : (1 : Int32) = bi (lo ≤ n ∧ n ≤ hi) := by
  first | rfl | (simp only [bi]; rw [if_pos (by grind)]; done) | (simp only [bi]; rw [if_neg (by grind)]; done) | grind
set_option maxHeartbeats 4000000 in
set_option maxRecDepth 100000 in
theorem c_X11_within (l : Launch) (D : va_G) (cI cB cZ cJ : ClassId) (tx : List (ClassId × FieldType)) (n : Int32) (lo : Int32) (hi : Int32) : RdI l D cI cB cZ cJ tx yX11_within cX11_within 3 (some .boolean) 0 [.int n, .int lo, .int hi] [] (fun r => r = bi (lo ≤ n ∧ n ≤ hi)) := by
  refine rdi_of2 (by decide) (Nat.le_of_ble_eq_true rfl) ?_
  intro p e s m below meth c A ls H locs hC hK hP hA hS hl
  obtain ⟨hx, hb, hr, hml, hown, hts, hlocks, hin⟩ := hC
  have hown : s.vm.findClass RX11 = some m.cls := hown
  have hl : lv_has ls 3 [(0, .int n), (1, .int lo), (2, .int hi)] := hl
  refine lv_iload_n hx hb dX11_within_0 rfl (lv_at hl 0 rfl) ?_
  refine lv_iload_n hx hb dX11_within_1 rfl (lv_at hl 1 rfl) ?_
  refine lv_icmp_lt (tgt := 14) hx hb dX11_within_2 (by decide) (fun c_1 => ?_) (fun c_1 => ?_)
  · refine lv_iconst (v := 0) hx hb dX11_within_14 (by decide) ?_
    exact W.zret (v := 0) hx hb hr (by decide) (fun t ht hW => ⟨⟨(0 : Int32), (), rfl, (lf_X11_within_2 n lo hi c_1), trivial⟩, hS.F ht⟩) hS.2.2 dX11_within_15 hlocks
  · refine lv_iload_n hx hb dX11_within_5 rfl (lv_at hl 0 rfl) ?_
    refine lv_iload_n hx hb dX11_within_6 rfl (lv_at hl 2 rfl) ?_
    refine lv_icmp_gt (tgt := 14) hx hb dX11_within_7 (by decide) (fun c_3 => ?_) (fun c_3 => ?_)
    · refine lv_iconst (v := 0) hx hb dX11_within_14 (by decide) ?_
      exact W.zret (v := 0) hx hb hr (by decide) (fun t ht hW => ⟨⟨(0 : Int32), (), rfl, (lf_X11_within_4 n lo hi c_1 c_3), trivial⟩, hS.F ht⟩) hS.2.2 dX11_within_15 hlocks
    · refine lv_iconst (v := 1) hx hb dX11_within_10 (by decide) ?_
      refine lv_goto (tgt := 15) hx hb dX11_within_11 (by decide) ?_
      exact W.zret (v := 1) hx hb hr (by decide) (fun t ht hW => ⟨⟨(1 : Int32), (), rfl, (lf_X11_within_5 n lo hi c_1 c_3), trivial⟩, hS.F ht⟩) hS.2.2 dX11_within_15 hlocks

theorem lf_X4_stands_1 (a : Nat → Nat) : (0 : Int32) = 0 := by
  first | rfl | assumption | (simp_all; done) | grind
set_option maxHeartbeats 4000000 in
set_option maxRecDepth 100000 in
theorem c_X4_stands (l : Launch) (D : va_G) (cI cB cZ cJ : ClassId) (tx : List (ClassId × FieldType)) (a : Nat → Nat) : RdI l D cI cB cZ cJ tx yX4_stands cX4_stands 1 (some .boolean) 0 [.ref (a 5)] [(a 5, .inr (4, [.ref (a 18), .ref (a 19), .ref (a 20), .ref (a 21), .ref (a 22), .ref (a 23), .ref (a 24), .int 0, .int 0, .int 0, .int 1]))] (fun r => r = 0) := by
  refine rdi_of2 (by decide) (Nat.le_of_ble_eq_true rfl) ?_
  intro p e s m below meth c A ls H locs hC hK hP hA hS hl
  obtain ⟨hx, hb, hr, hml, hown, hts, hlocks, hin⟩ := hC
  have hown : s.vm.findClass RX4 = some m.cls := hown
  have hl : lv_has ls 1 [(0, .ref (a 5))] := hl
  refine lv_aload_n hx hb dX4_stands_0 rfl (lv_at hl 0 rfl) ?_
  refine va_get (D := D) (ci := 4) (v := .int 0) (C := RX4) (T := TX4) (N := 11) hx hb hts inT_X4 hown hK.1 hP 0 rfl rfl 7 (by decide) (hts _ k_248) (fun _ h9 => h9) rfl dX4_stands_1 ?_
  refine lv_if_le (tgt := 11) hx hb dX4_stands_4 (by decide) (fun _ => ?_) (fun c => absurd c (by decide))
  refine lv_iconst (v := 0) hx hb dX4_stands_11 (by decide) ?_
  exact W.zret (v := 0) hx hb hr (by decide) (fun t ht hW => ⟨⟨(0 : Int32), (), rfl, (lf_X4_stands_1 a), trivial⟩, hS.F ht⟩) hS.2.2 dX4_stands_12 hlocks

theorem lf_X4_rivetAt_2 (a : Nat → Nat) (n1 : Int32) (n2 : Int32) (n3 : Int32) : ((-1) : Int32) = -1 := by
  first | rfl | assumption | (simp_all; done) | grind
set_option maxHeartbeats 4000000 in
set_option maxRecDepth 100000 in
theorem c_X4_rivetAt (l : Launch) (D : va_G) (cI cB cZ cJ : ClassId) (tx : List (ClassId × FieldType)) (a : Nat → Nat) (n1 : Int32) (n2 : Int32) (n3 : Int32) : RdI l D cI cB cZ cJ tx yX4_rivetAt cX4_rivetAt 4 (some .int) 1 [.ref (a 5), .int n1, .int n2, .int n3] [(a 5, .inr (4, [.ref (a 18), .ref (a 19), .ref (a 20), .ref (a 21), .ref (a 22), .ref (a 23), .ref (a 24), .int 0, .int 0, .int 0, .int 1]))] (fun r => r = -1) := by
  refine rdi_of2 (by decide) (Nat.le_of_ble_eq_true rfl) ?_
  intro p e s m below meth c A ls H locs hC hK hP hA hS hl
  obtain ⟨hx, hb, hr, hml, hown, hts, hlocks, hin⟩ := hC
  have hown : s.vm.findClass RX4 = some m.cls := hown
  have hl : lv_has ls 4 [(0, .ref (a 5)), (1, .int n1), (2, .int n2), (3, .int n3)] := hl
  refine lv_iload_n hx hb dX4_rivetAt_0 rfl (lv_at hl 1 rfl) ?_
  refine lv_iconst (v := 0) hx hb dX4_rivetAt_1 (by decide) ?_
  refine lv_aload_n hx hb dX4_rivetAt_2 rfl (lv_at hl 0 rfl) ?_
  refine va_get (D := D) (ci := 4) (v := .int 0) (C := RX4) (T := TX4) (N := 11) hx hb hts inT_X4 hown hK.1 hP 0 rfl rfl 7 (by decide) (hts _ k_248) (fun _ h9 => h9) rfl dX4_rivetAt_3 ?_
  refine lv_iconst (v := 1) hx hb dX4_rivetAt_6 (by decide) ?_
  refine lv_isub hx hb dX4_rivetAt_7 ?_
  refine lv_topv (y := (-1)) (by decide) ?_
  refine eRi (va_runSN (As := [.int n1, .int 0, .int (-1)]) (rest := []) ⟨hx, hb, hml, hown, hts⟩ (c_X11_within l D cI cB cZ cJ tx n1 0 (-1) H.size) (zSN hts hK n_777 v_X11_within ⟨Nat.le_of_ble_eq_true rfl, Nat.le_of_ble_eq_true rfl⟩) (px0 hK) rfl rfl hl.1 rfl (lv_room (Nat.le_of_ble_eq_true rfl)) dX4_rivetAt_8 ⟨Nat.le_of_ble_eq_true rfl, Nat.le_of_ble_eq_true rfl⟩) hP hS hA (fun r_1 H locs wr_1 hP hS => ?_)
  subst wr_1
  refine lv_topv (y := 0) (bi_no (by decide)) ?_
  refine lv_if_eq (tgt := 37) hx hb dX4_rivetAt_11 (by decide) (fun _ => ?_) (fun c => absurd c (by decide))
  refine lv_iconst (v := (-1)) hx hb dX4_rivetAt_37 (by decide) ?_
  exact W.iret (v := (-1)) hx hb hr (fun t ht hW => ⟨⟨((-1) : Int32), (), rfl, (lf_X4_rivetAt_2 a n1 n2 n3), trivial⟩, hS.F ht⟩) hS.2.2 dX4_rivetAt_38 hlocks

theorem lf_X4_allStations_1 (a : Nat → Nat) : (0 : Int32) = 0 := by
  first | rfl | assumption | (simp_all; done) | grind
set_option maxHeartbeats 4000000 in
set_option maxRecDepth 100000 in
theorem c_X4_allStations (l : Launch) (D : va_G) (cI cB cZ cJ : ClassId) (tx : List (ClassId × FieldType)) (a : Nat → Nat) : RdI l D cI cB cZ cJ tx yX4_allStations cX4_allStations 1 (some .int) 0 [.ref (a 5)] [(a 5, .inr (4, [.ref (a 18), .ref (a 19), .ref (a 20), .ref (a 21), .ref (a 22), .ref (a 23), .ref (a 24), .int 0, .int 0, .int 0, .int 1]))] (fun r => r = 0) := by
  refine rdi_of2 (by decide) (Nat.le_of_ble_eq_true rfl) ?_
  intro p e s m below meth c A ls H locs hC hK hP hA hS hl
  obtain ⟨hx, hb, hr, hml, hown, hts, hlocks, hin⟩ := hC
  have hown : s.vm.findClass RX4 = some m.cls := hown
  have hl : lv_has ls 1 [(0, .ref (a 5))] := hl
  refine lv_iconst (v := 1) hx hb dX4_allStations_0 (by decide) ?_
  refine lv_aload_n hx hb dX4_allStations_1 rfl (lv_at hl 0 rfl) ?_
  refine va_get (D := D) (ci := 4) (v := .int 0) (C := RX4) (T := TX4) (N := 11) hx hb hts inT_X4 hown hK.1 hP 0 rfl rfl 7 (by decide) (hts _ k_248) (fun _ h9 => h9) rfl dX4_allStations_2 ?_
  refine lv_ishl hx hb dX4_allStations_5 ?_
  refine lv_topv (y := 1) (by decide) ?_
  refine lv_iconst (v := 1) hx hb dX4_allStations_6 (by decide) ?_
  refine lv_isub hx hb dX4_allStations_7 ?_
  refine lv_topv (y := 0) (by decide) ?_
  exact W.iret (v := 0) hx hb hr (fun t ht hW => ⟨⟨(0 : Int32), (), rfl, (lf_X4_allStations_1 a), trivial⟩, hS.F ht⟩) hS.2.2 dX4_allStations_8 hlocks

theorem lf_X4_left_1 (a : Nat → Nat) : (0 : Int32) = 0 := by
  first | rfl | assumption | (simp_all; done) | grind
set_option maxHeartbeats 4000000 in
set_option maxRecDepth 100000 in
theorem c_X4_left (l : Launch) (D : va_G) (cI cB cZ cJ : ClassId) (tx : List (ClassId × FieldType)) (a : Nat → Nat) : RdI l D cI cB cZ cJ tx yX4_left cX4_left 6 (some .int) 0 [.ref (a 5)] [(a 5, .inr (4, [.ref (a 18), .ref (a 19), .ref (a 20), .ref (a 21), .ref (a 22), .ref (a 23), .ref (a 24), .int 0, .int 0, .int 0, .int 1]))] (fun r => r = 0) := by
  refine rdi_of2 (by decide) (Nat.le_of_ble_eq_true rfl) ?_
  intro p e s m below meth c A ls H locs hC hK hP hA hS hl
  obtain ⟨hx, hb, hr, hml, hown, hts, hlocks, hin⟩ := hC
  have hown : s.vm.findClass RX4 = some m.cls := hown
  have hl : lv_has ls 6 [(0, .ref (a 5))] := hl
  refine lv_iconst (v := 0) hx hb dX4_left_0 (by decide) ?_
  refine lv_istore_n (lv' := [(1, .int 0), (0, .ref (a 5))]) hx hb dX4_left_1 rfl hl (by decide) rfl (fun ls hl => ?_)
  refine lv_iconst (v := 0) hx hb dX4_left_2 (by decide) ?_
  refine lv_istore_n (lv' := [(2, .int 0), (1, .int 0), (0, .ref (a 5))]) hx hb dX4_left_3 rfl hl (by decide) rfl (fun ls hl => ?_)
  refine lv_iload_n hx hb dX4_left_4 rfl (lv_at hl 0 rfl) ?_
  refine lv_aload_n hx hb dX4_left_5 rfl (lv_at hl 2 rfl) ?_
  refine va_get (D := D) (ci := 4) (v := .int 0) (C := RX4) (T := TX4) (N := 11) hx hb hts inT_X4 hown hK.1 hP 0 rfl rfl 7 (by decide) (hts _ k_248) (fun _ h9 => h9) rfl dX4_left_6 ?_
  refine lv_icmp_ge (tgt := 82) hx hb dX4_left_9 (by decide) (fun _ => ?_) (fun c => absurd c (by decide))
  refine lv_iload_n hx hb dX4_left_82 rfl (lv_at hl 1 rfl) ?_
  exact W.iret (v := 0) hx hb hr (fun t ht hW => ⟨⟨(0 : Int32), (), rfl, (lf_X4_left_1 a), trivial⟩, hS.F ht⟩) hS.2.2 dX4_left_83 hlocks

theorem lf_X0_has_2 (a : Nat → Nat) (n1 : Int32) : (0 : Int32) = 0 := by
  first | rfl | assumption | (simp_all; done) | grind
set_option maxHeartbeats 4000000 in
set_option maxRecDepth 100000 in
theorem c_X0_has (l : Launch) (D : va_G) (cI cB cZ cJ : ClassId) (tx : List (ClassId × FieldType)) (a : Nat → Nat) (n1 : Int32) : RdI l D cI cB cZ cJ tx yX0_has cX0_has 2 (some .boolean) 1 [.ref (a 6), .int n1] [(a 6, .inr (0, [.ref (a 5), .ref (a 25), .ref (a 26), .ref (a 27), .ref (a 28), .ref (a 29), .int 0]))] (fun r => r = 0) := by
  refine rdi_of2 (by decide) (Nat.le_of_ble_eq_true rfl) ?_
  intro p e s m below meth c A ls H locs hC hK hP hA hS hl
  obtain ⟨hx, hb, hr, hml, hown, hts, hlocks, hin⟩ := hC
  have hown : s.vm.findClass RX0 = some m.cls := hown
  have hl : lv_has ls 2 [(0, .ref (a 6)), (1, .int n1)] := hl
  refine lv_iload_n hx hb dX0_has_0 rfl (lv_at hl 1 rfl) ?_
  refine lv_iconst (v := 0) hx hb dX0_has_1 (by decide) ?_
  refine lv_aload_n hx hb dX0_has_2 rfl (lv_at hl 0 rfl) ?_
  refine va_get (D := D) (ci := 0) (v := .int 0) (C := RX0) (T := TX0) (N := 7) hx hb hts inT_X0 hown hK.1 hP 0 rfl rfl 6 (by decide) (hts _ k_300) (fun _ h9 => h9) rfl dX0_has_3 ?_
  refine lv_iconst (v := 1) hx hb dX0_has_6 (by decide) ?_
  refine lv_isub hx hb dX0_has_7 ?_
  refine lv_topv (y := (-1)) (by decide) ?_
  refine eRi (va_runSN (As := [.int n1, .int 0, .int (-1)]) (rest := []) ⟨hx, hb, hml, hown, hts⟩ (c_X11_within l D cI cB cZ cJ tx n1 0 (-1) H.size) (zSN hts hK n_903 v_X11_within ⟨Nat.le_of_ble_eq_true rfl, Nat.le_of_ble_eq_true rfl⟩) (px0 hK) rfl rfl hl.1 rfl (lv_room (Nat.le_of_ble_eq_true rfl)) dX0_has_8 ⟨Nat.le_of_ble_eq_true rfl, Nat.le_of_ble_eq_true rfl⟩) hP hS hA (fun r_1 H locs wr_1 hP hS => ?_)
  subst wr_1
  refine lv_topv (y := 0) (bi_no (by decide)) ?_
  exact W.zret (v := 0) hx hb hr (by decide) (fun t ht hW => ⟨⟨(0 : Int32), (), rfl, (lf_X0_has_2 a n1), trivial⟩, hS.F ht⟩) hS.2.2 dX0_has_11 hlocks

theorem lf_X0_areTwo_2 (a : Nat → Nat) (n1 : Int32) (n2 : Int32) : (0 : Int32) = 0 := by
  first | rfl | assumption | (simp_all; done) | grind
set_option maxHeartbeats 4000000 in
set_option maxRecDepth 100000 in
theorem c_X0_areTwo (l : Launch) (D : va_G) (cI cB cZ cJ : ClassId) (tx : List (ClassId × FieldType)) (a : Nat → Nat) (n1 : Int32) (n2 : Int32) : RdI l D cI cB cZ cJ tx yX0_areTwo cX0_areTwo 3 (some .boolean) 2 [.ref (a 6), .int n1, .int n2] [(a 6, .inr (0, [.ref (a 5), .ref (a 25), .ref (a 26), .ref (a 27), .ref (a 28), .ref (a 29), .int 0]))] (fun r => r = 0) := by
  refine rdi_of2 (by decide) (Nat.le_of_ble_eq_true rfl) ?_
  intro p e s m below meth c A ls H locs hC hK hP hA hS hl
  obtain ⟨hx, hb, hr, hml, hown, hts, hlocks, hin⟩ := hC
  have hown : s.vm.findClass RX0 = some m.cls := hown
  have hl : lv_has ls 3 [(0, .ref (a 6)), (1, .int n1), (2, .int n2)] := hl
  refine lv_aload_n hx hb dX0_areTwo_0 rfl (lv_at hl 0 rfl) ?_
  refine lv_iload_n hx hb dX0_areTwo_1 rfl (lv_at hl 1 rfl) ?_
  refine eRi (va_runV (As := [.int n1]) (rest := []) ⟨hx, hb, hml, hown, hts⟩ (c_X0_has l D cI cB cZ cJ tx a n1 H.size) (zV hts k_928 v_X0_has ⟨Nat.le_of_ble_eq_true rfl, Nat.le_of_ble_eq_true rfl⟩) (pV (px1 hK hP 0 rfl) hK hP 0 rfl rfl) rfl rfl hl.1 rfl (lv_room (Nat.le_of_ble_eq_true rfl)) dX0_areTwo_2 ⟨Nat.le_of_ble_eq_true rfl, Nat.le_of_ble_eq_true rfl⟩) hP hS hA (fun r_1 H locs wr_1 hP hS => ?_)
  subst wr_1
  refine lv_if_eq (tgt := 25) hx hb dX0_areTwo_5 (by decide) (fun _ => ?_) (fun c => absurd c (by decide))
  refine lv_iconst (v := 0) hx hb dX0_areTwo_25 (by decide) ?_
  exact W.zret (v := 0) hx hb hr (by decide) (fun t ht hW => ⟨⟨(0 : Int32), (), rfl, (lf_X0_areTwo_2 a n1 n2), trivial⟩, hS.F ht⟩) hS.2.2 dX0_areTwo_26 hlocks

theorem lf_X2_fits_2 (a : Nat → Nat) (n1 : Int32) (n2 : Int32) : (0 : Int32) = 0 := by
  first | rfl | assumption | (simp_all; done) | grind
set_option maxHeartbeats 4000000 in
set_option maxRecDepth 100000 in
theorem c_X2_fits (l : Launch) (D : va_G) (cI cB cZ cJ : ClassId) (tx : List (ClassId × FieldType)) (a : Nat → Nat) (n1 : Int32) (n2 : Int32) : RdI l D cI cB cZ cJ tx yX2_fits cX2_fits 3 (some .boolean) 1 [.ref (a 7), .int n1, .int n2] [(a 7, .inr (2, [.ref (a 5), .ref (a 30), .ref (a 31), .ref (a 32), .ref (a 33), .ref (a 34), .ref (a 35), .ref (a 36), .ref (a 37), .ref (a 38), .ref (a 39), .ref (a 40)])), (a 5, .inr (4, [.ref (a 18), .ref (a 19), .ref (a 20), .ref (a 21), .ref (a 22), .ref (a 23), .ref (a 24), .int 0, .int 0, .int 0, .int 1]))] (fun r => r = 0) := by
  refine rdi_of2 (by decide) (Nat.le_of_ble_eq_true rfl) ?_
  intro p e s m below meth c A ls H locs hC hK hP hA hS hl
  obtain ⟨hx, hb, hr, hml, hown, hts, hlocks, hin⟩ := hC
  have hown : s.vm.findClass RX2 = some m.cls := hown
  have hl : lv_has ls 3 [(0, .ref (a 7)), (1, .int n1), (2, .int n2)] := hl
  refine lv_iload_n hx hb dX2_fits_0 rfl (lv_at hl 1 rfl) ?_
  refine lv_iconst (v := 0) hx hb dX2_fits_1 (by decide) ?_
  refine lv_aload_n hx hb dX2_fits_2 rfl (lv_at hl 0 rfl) ?_
  refine va_get (D := D) (ci := 2) (v := .ref (a 5)) (C := RX2) (T := TX2) (N := 12) hx hb hts inT_X2 hown hK.1 hP 0 rfl rfl 0 (by decide) (hts _ k_324) (fun _ h9 => h9) rfl dX2_fits_3 ?_
  refine va_getN (D := D) (ci := 4) (v := .int 0) (C := RX4) (T := TX4) (N := 11) hx hb hts inT_X4 hown hK.1 hP 1 rfl rfl 8 (by decide) (va_Nw.use rfl (hK.2.2.1 _ n_256)) (fun _ h9 => h9) rfl dX2_fits_6 ?_
  refine lv_iconst (v := 1) hx hb dX2_fits_9 (by decide) ?_
  refine lv_isub hx hb dX2_fits_10 ?_
  refine lv_topv (y := (-1)) (by decide) ?_
  refine eRi (va_runSN (As := [.int n1, .int 0, .int (-1)]) (rest := []) ⟨hx, hb, hml, hown, hts⟩ (c_X11_within l D cI cB cZ cJ tx n1 0 (-1) H.size) (zSN hts hK n_998 v_X11_within ⟨Nat.le_of_ble_eq_true rfl, Nat.le_of_ble_eq_true rfl⟩) (px0 hK) rfl rfl hl.1 rfl (lv_room (Nat.le_of_ble_eq_true rfl)) dX2_fits_11 ⟨Nat.le_of_ble_eq_true rfl, Nat.le_of_ble_eq_true rfl⟩) hP hS hA (fun r_1 H locs wr_1 hP hS => ?_)
  subst wr_1
  refine lv_topv (y := 0) (bi_no (by decide)) ?_
  refine lv_if_eq (tgt := 27) hx hb dX2_fits_14 (by decide) (fun _ => ?_) (fun c => absurd c (by decide))
  refine lv_iconst (v := 0) hx hb dX2_fits_27 (by decide) ?_
  exact W.zret (v := 0) hx hb hr (by decide) (fun t ht hW => ⟨⟨(0 : Int32), (), rfl, (lf_X2_fits_2 a n1 n2), trivial⟩, hS.F ht⟩) hS.2.2 dX2_fits_28 hlocks

theorem lf_X1_isToldUpTo_2 (a : Nat → Nat) (n1 : Int32) (n2 : Int32) : (0 : Int32) = 0 := by
  first | rfl | assumption | (simp_all; done) | grind
set_option maxHeartbeats 4000000 in
set_option maxRecDepth 100000 in
theorem c_X1_isToldUpTo (l : Launch) (D : va_G) (cI cB cZ cJ : ClassId) (tx : List (ClassId × FieldType)) (a : Nat → Nat) (n1 : Int32) (n2 : Int32) : RdI l D cI cB cZ cJ tx yX1_isToldUpTo cX1_isToldUpTo 4 (some .boolean) 1 [.ref (a 8), .int n1, .int n2] [(a 8, .inr (1, [.ref (a 5), .ref (a 7), .ref (a 41), .ref (a 42), .ref (a 43), .ref (a 44), .int 0])), (a 5, .inr (4, [.ref (a 18), .ref (a 19), .ref (a 20), .ref (a 21), .ref (a 22), .ref (a 23), .ref (a 24), .int 0, .int 0, .int 0, .int 1]))] (fun r => r = 0) := by
  refine rdi_of2 (by decide) (Nat.le_of_ble_eq_true rfl) ?_
  intro p e s m below meth c A ls H locs hC hK hP hA hS hl
  obtain ⟨hx, hb, hr, hml, hown, hts, hlocks, hin⟩ := hC
  have hown : s.vm.findClass RX1 = some m.cls := hown
  have hl : lv_has ls 4 [(0, .ref (a 8)), (1, .int n1), (2, .int n2)] := hl
  refine lv_iload_n hx hb dX1_isToldUpTo_0 rfl (lv_at hl 1 rfl) ?_
  refine lv_iconst (v := 0) hx hb dX1_isToldUpTo_1 (by decide) ?_
  refine lv_aload_n hx hb dX1_isToldUpTo_2 rfl (lv_at hl 0 rfl) ?_
  refine va_get (D := D) (ci := 1) (v := .ref (a 5)) (C := RX1) (T := TX1) (N := 7) hx hb hts inT_X1 hown hK.1 hP 0 rfl rfl 0 (by decide) (hts _ k_371) (fun _ h9 => h9) rfl dX1_isToldUpTo_3 ?_
  refine va_getN (D := D) (ci := 4) (v := .int 0) (C := RX4) (T := TX4) (N := 11) hx hb hts inT_X4 hown hK.1 hP 1 rfl rfl 8 (by decide) (va_Nw.use rfl (hK.2.2.1 _ n_255)) (fun _ h9 => h9) rfl dX1_isToldUpTo_6 ?_
  refine lv_iconst (v := 1) hx hb dX1_isToldUpTo_9 (by decide) ?_
  refine lv_isub hx hb dX1_isToldUpTo_10 ?_
  refine lv_topv (y := (-1)) (by decide) ?_
  refine eRi (va_runSN (As := [.int n1, .int 0, .int (-1)]) (rest := []) ⟨hx, hb, hml, hown, hts⟩ (c_X11_within l D cI cB cZ cJ tx n1 0 (-1) H.size) (zSN hts hK n_1244 v_X11_within ⟨Nat.le_of_ble_eq_true rfl, Nat.le_of_ble_eq_true rfl⟩) (px0 hK) rfl rfl hl.1 rfl (lv_room (Nat.le_of_ble_eq_true rfl)) dX1_isToldUpTo_11 ⟨Nat.le_of_ble_eq_true rfl, Nat.le_of_ble_eq_true rfl⟩) hP hS hA (fun r_1 H locs wr_1 hP hS => ?_)
  subst wr_1
  refine lv_topv (y := 0) (bi_no (by decide)) ?_
  refine lv_if_ne (tgt := 19) hx hb dX1_isToldUpTo_14 (by decide) (fun c => absurd c (by decide)) (fun _ => ?_)
  refine lv_iconst (v := 0) hx hb dX1_isToldUpTo_17 (by decide) ?_
  exact W.zret (v := 0) hx hb hr (by decide) (fun t ht hW => ⟨⟨(0 : Int32), (), rfl, (lf_X1_isToldUpTo_2 a n1 n2), trivial⟩, hS.F ht⟩) hS.2.2 dX1_isToldUpTo_18 hlocks

theorem lf_X7_told_1 (a : Nat → Nat) : (0 : Int32) = 0 := by
  first | rfl | assumption | (simp_all; done) | grind
set_option maxHeartbeats 4000000 in
set_option maxRecDepth 100000 in
theorem c_X7_told (l : Launch) (D : va_G) (cI cB cZ cJ : ClassId) (tx : List (ClassId × FieldType)) (a : Nat → Nat) : RdI l D cI cB cZ cJ tx yX7_told cX7_told 3 (some .int) 0 [.ref (a 12)] [(a 12, .inr (7, [.ref (a 48), .ref (a 49), .ref (a 50)])), (a 49, .inl (cZ, 6, .inl (fun _ => 0)))] (fun r => r = 0) := by
  refine rdi_of2 (by decide) (Nat.le_of_ble_eq_true rfl) ?_
  intro p e s m below meth c A ls H locs hC hK hP hA hS hl
  obtain ⟨hx, hb, hr, hml, hown, hts, hlocks, hin⟩ := hC
  have hown : s.vm.findClass RX7 = some m.cls := hown
  have hl : lv_has ls 3 [(0, .ref (a 12))] := hl
  refine lv_iconst (v := 0) hx hb dX7_told_0 (by decide) ?_
  refine lv_istore_n (lv' := [(1, .int 0), (0, .ref (a 12))]) hx hb dX7_told_1 rfl hl (by decide) rfl (fun ls hl => ?_)
  refine lv_iconst (v := 0) hx hb dX7_told_2 (by decide) ?_
  refine lv_istore_n (lv' := [(2, .int 0), (1, .int 0), (0, .ref (a 12))]) hx hb dX7_told_3 rfl hl (by decide) rfl (fun ls hl => ?_)
  refine lv_iload_n hx hb dX7_told_4 rfl (lv_at hl 0 rfl) ?_
  refine lv_bipush (v := 6) hx hb dX7_told_5 (by decide) ?_
  refine lv_icmp_ge (tgt := 33) hx hb dX7_told_7 (by decide) (fun c => absurd c (by decide)) (fun _ => ?_)
  refine lv_iload_n hx hb dX7_told_10 rfl (lv_at hl 1 rfl) ?_
  refine lv_aload_n hx hb dX7_told_11 rfl (lv_at hl 2 rfl) ?_
  refine va_get (D := D) (ci := 7) (v := .ref (a 49)) (C := RX7) (T := TX7) (N := 3) hx hb hts inT_X7 hown hK.1 hP 0 rfl rfl 1 (by decide) (hts _ k_472) (fun _ h9 => h9) rfl dX7_told_12 ?_
  refine lv_iload_n hx hb dX7_told_15 rfl (lv_at hl 0 rfl) ?_
  refine l0_z hx hb hK hP 1 rfl (by unfold vp_in; decide) dX7_told_16 ?_
  refine lv_if_eq (tgt := 24) hx hb dX7_told_17 (by decide) (fun _ => ?_) (fun c => absurd c (by decide))
  refine lv_iconst (v := 0) hx hb dX7_told_24 (by decide) ?_
  refine lv_iadd hx hb dX7_told_25 ?_
  refine lv_topv (y := 0) (by decide) ?_
  refine lv_istore_n (lv' := [(1, .int 0), (2, .int 0), (0, .ref (a 12))]) hx hb dX7_told_26 rfl hl (by decide) rfl (fun ls hl => ?_)
  refine lv_iinc (v := 1) (lv' := [(2, .int 1), (1, .int 0), (0, .ref (a 12))]) hx hb dX7_told_27 hl (k := 1) rfl (by decide) (by decide) rfl (fun ls hl => ?_)
  refine lv_goto (tgt := 4) hx hb dX7_told_30 (by decide) ?_
  refine lv_iload_n hx hb dX7_told_4 rfl (lv_at hl 0 rfl) ?_
  refine lv_bipush (v := 6) hx hb dX7_told_5 (by decide) ?_
  refine lv_icmp_ge (tgt := 33) hx hb dX7_told_7 (by decide) (fun c => absurd c (by decide)) (fun _ => ?_)
  refine lv_iload_n hx hb dX7_told_10 rfl (lv_at hl 1 rfl) ?_
  refine lv_aload_n hx hb dX7_told_11 rfl (lv_at hl 2 rfl) ?_
  refine va_get (D := D) (ci := 7) (v := .ref (a 49)) (C := RX7) (T := TX7) (N := 3) hx hb hts inT_X7 hown hK.1 hP 0 rfl rfl 1 (by decide) (hts _ k_472) (fun _ h9 => h9) rfl dX7_told_12 ?_
  refine lv_iload_n hx hb dX7_told_15 rfl (lv_at hl 0 rfl) ?_
  refine l0_z hx hb hK hP 1 rfl (by unfold vp_in; decide) dX7_told_16 ?_
  refine lv_if_eq (tgt := 24) hx hb dX7_told_17 (by decide) (fun _ => ?_) (fun c => absurd c (by decide))
  refine lv_iconst (v := 0) hx hb dX7_told_24 (by decide) ?_
  refine lv_iadd hx hb dX7_told_25 ?_
  refine lv_topv (y := 0) (by decide) ?_
  refine lv_istore_n (lv' := [(1, .int 0), (2, .int 1), (0, .ref (a 12))]) hx hb dX7_told_26 rfl hl (by decide) rfl (fun ls hl => ?_)
  refine lv_iinc (v := 2) (lv' := [(2, .int 2), (1, .int 0), (0, .ref (a 12))]) hx hb dX7_told_27 hl (k := 1) rfl (by decide) (by decide) rfl (fun ls hl => ?_)
  refine lv_goto (tgt := 4) hx hb dX7_told_30 (by decide) ?_
  refine lv_iload_n hx hb dX7_told_4 rfl (lv_at hl 0 rfl) ?_
  refine lv_bipush (v := 6) hx hb dX7_told_5 (by decide) ?_
  refine lv_icmp_ge (tgt := 33) hx hb dX7_told_7 (by decide) (fun c => absurd c (by decide)) (fun _ => ?_)
  refine lv_iload_n hx hb dX7_told_10 rfl (lv_at hl 1 rfl) ?_
  refine lv_aload_n hx hb dX7_told_11 rfl (lv_at hl 2 rfl) ?_
  refine va_get (D := D) (ci := 7) (v := .ref (a 49)) (C := RX7) (T := TX7) (N := 3) hx hb hts inT_X7 hown hK.1 hP 0 rfl rfl 1 (by decide) (hts _ k_472) (fun _ h9 => h9) rfl dX7_told_12 ?_
  refine lv_iload_n hx hb dX7_told_15 rfl (lv_at hl 0 rfl) ?_
  refine l0_z hx hb hK hP 1 rfl (by unfold vp_in; decide) dX7_told_16 ?_
  refine lv_if_eq (tgt := 24) hx hb dX7_told_17 (by decide) (fun _ => ?_) (fun c => absurd c (by decide))
  refine lv_iconst (v := 0) hx hb dX7_told_24 (by decide) ?_
  refine lv_iadd hx hb dX7_told_25 ?_
  refine lv_topv (y := 0) (by decide) ?_
  refine lv_istore_n (lv' := [(1, .int 0), (2, .int 2), (0, .ref (a 12))]) hx hb dX7_told_26 rfl hl (by decide) rfl (fun ls hl => ?_)
  refine lv_iinc (v := 3) (lv' := [(2, .int 3), (1, .int 0), (0, .ref (a 12))]) hx hb dX7_told_27 hl (k := 1) rfl (by decide) (by decide) rfl (fun ls hl => ?_)
  refine lv_goto (tgt := 4) hx hb dX7_told_30 (by decide) ?_
  refine lv_iload_n hx hb dX7_told_4 rfl (lv_at hl 0 rfl) ?_
  refine lv_bipush (v := 6) hx hb dX7_told_5 (by decide) ?_
  refine lv_icmp_ge (tgt := 33) hx hb dX7_told_7 (by decide) (fun c => absurd c (by decide)) (fun _ => ?_)
  refine lv_iload_n hx hb dX7_told_10 rfl (lv_at hl 1 rfl) ?_
  refine lv_aload_n hx hb dX7_told_11 rfl (lv_at hl 2 rfl) ?_
  refine va_get (D := D) (ci := 7) (v := .ref (a 49)) (C := RX7) (T := TX7) (N := 3) hx hb hts inT_X7 hown hK.1 hP 0 rfl rfl 1 (by decide) (hts _ k_472) (fun _ h9 => h9) rfl dX7_told_12 ?_
  refine lv_iload_n hx hb dX7_told_15 rfl (lv_at hl 0 rfl) ?_
  refine l0_z hx hb hK hP 1 rfl (by unfold vp_in; decide) dX7_told_16 ?_
  refine lv_if_eq (tgt := 24) hx hb dX7_told_17 (by decide) (fun _ => ?_) (fun c => absurd c (by decide))
  refine lv_iconst (v := 0) hx hb dX7_told_24 (by decide) ?_
  refine lv_iadd hx hb dX7_told_25 ?_
  refine lv_topv (y := 0) (by decide) ?_
  refine lv_istore_n (lv' := [(1, .int 0), (2, .int 3), (0, .ref (a 12))]) hx hb dX7_told_26 rfl hl (by decide) rfl (fun ls hl => ?_)
  refine lv_iinc (v := 4) (lv' := [(2, .int 4), (1, .int 0), (0, .ref (a 12))]) hx hb dX7_told_27 hl (k := 1) rfl (by decide) (by decide) rfl (fun ls hl => ?_)
  refine lv_goto (tgt := 4) hx hb dX7_told_30 (by decide) ?_
  refine lv_iload_n hx hb dX7_told_4 rfl (lv_at hl 0 rfl) ?_
  refine lv_bipush (v := 6) hx hb dX7_told_5 (by decide) ?_
  refine lv_icmp_ge (tgt := 33) hx hb dX7_told_7 (by decide) (fun c => absurd c (by decide)) (fun _ => ?_)
  refine lv_iload_n hx hb dX7_told_10 rfl (lv_at hl 1 rfl) ?_
  refine lv_aload_n hx hb dX7_told_11 rfl (lv_at hl 2 rfl) ?_
  refine va_get (D := D) (ci := 7) (v := .ref (a 49)) (C := RX7) (T := TX7) (N := 3) hx hb hts inT_X7 hown hK.1 hP 0 rfl rfl 1 (by decide) (hts _ k_472) (fun _ h9 => h9) rfl dX7_told_12 ?_
  refine lv_iload_n hx hb dX7_told_15 rfl (lv_at hl 0 rfl) ?_
  refine l0_z hx hb hK hP 1 rfl (by unfold vp_in; decide) dX7_told_16 ?_
  refine lv_if_eq (tgt := 24) hx hb dX7_told_17 (by decide) (fun _ => ?_) (fun c => absurd c (by decide))
  refine lv_iconst (v := 0) hx hb dX7_told_24 (by decide) ?_
  refine lv_iadd hx hb dX7_told_25 ?_
  refine lv_topv (y := 0) (by decide) ?_
  refine lv_istore_n (lv' := [(1, .int 0), (2, .int 4), (0, .ref (a 12))]) hx hb dX7_told_26 rfl hl (by decide) rfl (fun ls hl => ?_)
  refine lv_iinc (v := 5) (lv' := [(2, .int 5), (1, .int 0), (0, .ref (a 12))]) hx hb dX7_told_27 hl (k := 1) rfl (by decide) (by decide) rfl (fun ls hl => ?_)
  refine lv_goto (tgt := 4) hx hb dX7_told_30 (by decide) ?_
  refine lv_iload_n hx hb dX7_told_4 rfl (lv_at hl 0 rfl) ?_
  refine lv_bipush (v := 6) hx hb dX7_told_5 (by decide) ?_
  refine lv_icmp_ge (tgt := 33) hx hb dX7_told_7 (by decide) (fun c => absurd c (by decide)) (fun _ => ?_)
  refine lv_iload_n hx hb dX7_told_10 rfl (lv_at hl 1 rfl) ?_
  refine lv_aload_n hx hb dX7_told_11 rfl (lv_at hl 2 rfl) ?_
  refine va_get (D := D) (ci := 7) (v := .ref (a 49)) (C := RX7) (T := TX7) (N := 3) hx hb hts inT_X7 hown hK.1 hP 0 rfl rfl 1 (by decide) (hts _ k_472) (fun _ h9 => h9) rfl dX7_told_12 ?_
  refine lv_iload_n hx hb dX7_told_15 rfl (lv_at hl 0 rfl) ?_
  refine l0_z hx hb hK hP 1 rfl (by unfold vp_in; decide) dX7_told_16 ?_
  refine lv_if_eq (tgt := 24) hx hb dX7_told_17 (by decide) (fun _ => ?_) (fun c => absurd c (by decide))
  refine lv_iconst (v := 0) hx hb dX7_told_24 (by decide) ?_
  refine lv_iadd hx hb dX7_told_25 ?_
  refine lv_topv (y := 0) (by decide) ?_
  refine lv_istore_n (lv' := [(1, .int 0), (2, .int 5), (0, .ref (a 12))]) hx hb dX7_told_26 rfl hl (by decide) rfl (fun ls hl => ?_)
  refine lv_iinc (v := 6) (lv' := [(2, .int 6), (1, .int 0), (0, .ref (a 12))]) hx hb dX7_told_27 hl (k := 1) rfl (by decide) (by decide) rfl (fun ls hl => ?_)
  refine lv_goto (tgt := 4) hx hb dX7_told_30 (by decide) ?_
  refine lv_iload_n hx hb dX7_told_4 rfl (lv_at hl 0 rfl) ?_
  refine lv_bipush (v := 6) hx hb dX7_told_5 (by decide) ?_
  refine lv_icmp_ge (tgt := 33) hx hb dX7_told_7 (by decide) (fun _ => ?_) (fun c => absurd c (by decide))
  refine lv_iload_n hx hb dX7_told_33 rfl (lv_at hl 1 rfl) ?_
  exact W.iret (v := 0) hx hb hr (fun t ht hW => ⟨⟨(0 : Int32), (), rfl, (lf_X7_told_1 a), trivial⟩, hS.F ht⟩) hS.2.2 dX7_told_34 hlocks

theorem lf_X7_together_1 (a : Nat → Nat) : (0 : Int64) = 0 := by
  first | rfl | assumption | (simp_all; done) | grind
set_option maxHeartbeats 4000000 in
set_option maxRecDepth 100000 in
theorem c_X7_together (l : Launch) (D : va_G) (cI cB cZ cJ : ClassId) (tx : List (ClassId × FieldType)) (a : Nat → Nat) : RdL l D cI cB cZ cJ tx yX7_together cX7_together 4 (some .long) 0 [.ref (a 12)] [(a 12, .inr (7, [.ref (a 48), .ref (a 49), .ref (a 50)])), (a 49, .inl (cZ, 6, .inl (fun _ => 0)))] (fun r => r = 0) := by
  refine rdl_of2 (by decide) (Nat.le_of_ble_eq_true rfl) ?_
  intro p e s m below meth c A ls H locs hC hK hP hA hS hl
  obtain ⟨hx, hb, hr, hml, hown, hts, hlocks, hin⟩ := hC
  have hown : s.vm.findClass RX7 = some m.cls := hown
  have hl : lv_has ls 4 [(0, .ref (a 12))] := hl
  refine lv_lconst (v := 0) hx hb dX7_together_0 (by decide) ?_
  refine lv_lstore_n (lv' := [(1, .long 0), (0, .ref (a 12))]) hx hb dX7_together_1 rfl hl (by decide) rfl (fun ls hl => ?_)
  refine lv_iconst (v := 0) hx hb dX7_together_2 (by decide) ?_
  refine lv_istore_n (lv' := [(3, .int 0), (1, .long 0), (0, .ref (a 12))]) hx hb dX7_together_3 rfl hl (by decide) rfl (fun ls hl => ?_)
  refine lv_iload_n hx hb dX7_together_4 rfl (lv_at hl 0 rfl) ?_
  refine lv_bipush (v := 6) hx hb dX7_together_5 (by decide) ?_
  refine lv_icmp_ge (tgt := 37) hx hb dX7_together_7 (by decide) (fun c => absurd c (by decide)) (fun _ => ?_)
  refine lv_lload_n hx hb dX7_together_10 rfl (lv_at hl 1 rfl) ?_
  refine lv_aload_n hx hb dX7_together_11 rfl (lv_at hl 2 rfl) ?_
  refine va_get (D := D) (ci := 7) (v := .ref (a 49)) (C := RX7) (T := TX7) (N := 3) hx hb hts inT_X7 hown hK.1 hP 0 rfl rfl 1 (by decide) (hts _ k_472) (fun _ h9 => h9) rfl dX7_together_12 ?_
  refine lv_iload_n hx hb dX7_together_15 rfl (lv_at hl 0 rfl) ?_
  refine l0_z hx hb hK hP 1 rfl (by unfold vp_in; decide) dX7_together_16 ?_
  refine lv_if_eq (tgt := 28) hx hb dX7_together_17 (by decide) (fun _ => ?_) (fun c => absurd c (by decide))
  refine lv_lconst (v := 0) hx hb dX7_together_28 (by decide) ?_
  refine lv_ladd hx hb dX7_together_29 ?_
  refine lv_topw (y := 0) (by decide) ?_
  refine lv_lstore_n (lv' := [(1, .long 0), (3, .int 0), (0, .ref (a 12))]) hx hb dX7_together_30 rfl hl (by decide) rfl (fun ls hl => ?_)
  refine lv_iinc (v := 1) (lv' := [(3, .int 1), (1, .long 0), (0, .ref (a 12))]) hx hb dX7_together_31 hl (k := 1) rfl (by decide) (by decide) rfl (fun ls hl => ?_)
  refine lv_goto (tgt := 4) hx hb dX7_together_34 (by decide) ?_
  refine lv_iload_n hx hb dX7_together_4 rfl (lv_at hl 0 rfl) ?_
  refine lv_bipush (v := 6) hx hb dX7_together_5 (by decide) ?_
  refine lv_icmp_ge (tgt := 37) hx hb dX7_together_7 (by decide) (fun c => absurd c (by decide)) (fun _ => ?_)
  refine lv_lload_n hx hb dX7_together_10 rfl (lv_at hl 1 rfl) ?_
  refine lv_aload_n hx hb dX7_together_11 rfl (lv_at hl 2 rfl) ?_
  refine va_get (D := D) (ci := 7) (v := .ref (a 49)) (C := RX7) (T := TX7) (N := 3) hx hb hts inT_X7 hown hK.1 hP 0 rfl rfl 1 (by decide) (hts _ k_472) (fun _ h9 => h9) rfl dX7_together_12 ?_
  refine lv_iload_n hx hb dX7_together_15 rfl (lv_at hl 0 rfl) ?_
  refine l0_z hx hb hK hP 1 rfl (by unfold vp_in; decide) dX7_together_16 ?_
  refine lv_if_eq (tgt := 28) hx hb dX7_together_17 (by decide) (fun _ => ?_) (fun c => absurd c (by decide))
  refine lv_lconst (v := 0) hx hb dX7_together_28 (by decide) ?_
  refine lv_ladd hx hb dX7_together_29 ?_
  refine lv_topw (y := 0) (by decide) ?_
  refine lv_lstore_n (lv' := [(1, .long 0), (3, .int 1), (0, .ref (a 12))]) hx hb dX7_together_30 rfl hl (by decide) rfl (fun ls hl => ?_)
  refine lv_iinc (v := 2) (lv' := [(3, .int 2), (1, .long 0), (0, .ref (a 12))]) hx hb dX7_together_31 hl (k := 1) rfl (by decide) (by decide) rfl (fun ls hl => ?_)
  refine lv_goto (tgt := 4) hx hb dX7_together_34 (by decide) ?_
  refine lv_iload_n hx hb dX7_together_4 rfl (lv_at hl 0 rfl) ?_
  refine lv_bipush (v := 6) hx hb dX7_together_5 (by decide) ?_
  refine lv_icmp_ge (tgt := 37) hx hb dX7_together_7 (by decide) (fun c => absurd c (by decide)) (fun _ => ?_)
  refine lv_lload_n hx hb dX7_together_10 rfl (lv_at hl 1 rfl) ?_
  refine lv_aload_n hx hb dX7_together_11 rfl (lv_at hl 2 rfl) ?_
  refine va_get (D := D) (ci := 7) (v := .ref (a 49)) (C := RX7) (T := TX7) (N := 3) hx hb hts inT_X7 hown hK.1 hP 0 rfl rfl 1 (by decide) (hts _ k_472) (fun _ h9 => h9) rfl dX7_together_12 ?_
  refine lv_iload_n hx hb dX7_together_15 rfl (lv_at hl 0 rfl) ?_
  refine l0_z hx hb hK hP 1 rfl (by unfold vp_in; decide) dX7_together_16 ?_
  refine lv_if_eq (tgt := 28) hx hb dX7_together_17 (by decide) (fun _ => ?_) (fun c => absurd c (by decide))
  refine lv_lconst (v := 0) hx hb dX7_together_28 (by decide) ?_
  refine lv_ladd hx hb dX7_together_29 ?_
  refine lv_topw (y := 0) (by decide) ?_
  refine lv_lstore_n (lv' := [(1, .long 0), (3, .int 2), (0, .ref (a 12))]) hx hb dX7_together_30 rfl hl (by decide) rfl (fun ls hl => ?_)
  refine lv_iinc (v := 3) (lv' := [(3, .int 3), (1, .long 0), (0, .ref (a 12))]) hx hb dX7_together_31 hl (k := 1) rfl (by decide) (by decide) rfl (fun ls hl => ?_)
  refine lv_goto (tgt := 4) hx hb dX7_together_34 (by decide) ?_
  refine lv_iload_n hx hb dX7_together_4 rfl (lv_at hl 0 rfl) ?_
  refine lv_bipush (v := 6) hx hb dX7_together_5 (by decide) ?_
  refine lv_icmp_ge (tgt := 37) hx hb dX7_together_7 (by decide) (fun c => absurd c (by decide)) (fun _ => ?_)
  refine lv_lload_n hx hb dX7_together_10 rfl (lv_at hl 1 rfl) ?_
  refine lv_aload_n hx hb dX7_together_11 rfl (lv_at hl 2 rfl) ?_
  refine va_get (D := D) (ci := 7) (v := .ref (a 49)) (C := RX7) (T := TX7) (N := 3) hx hb hts inT_X7 hown hK.1 hP 0 rfl rfl 1 (by decide) (hts _ k_472) (fun _ h9 => h9) rfl dX7_together_12 ?_
  refine lv_iload_n hx hb dX7_together_15 rfl (lv_at hl 0 rfl) ?_
  refine l0_z hx hb hK hP 1 rfl (by unfold vp_in; decide) dX7_together_16 ?_
  refine lv_if_eq (tgt := 28) hx hb dX7_together_17 (by decide) (fun _ => ?_) (fun c => absurd c (by decide))
  refine lv_lconst (v := 0) hx hb dX7_together_28 (by decide) ?_
  refine lv_ladd hx hb dX7_together_29 ?_
  refine lv_topw (y := 0) (by decide) ?_
  refine lv_lstore_n (lv' := [(1, .long 0), (3, .int 3), (0, .ref (a 12))]) hx hb dX7_together_30 rfl hl (by decide) rfl (fun ls hl => ?_)
  refine lv_iinc (v := 4) (lv' := [(3, .int 4), (1, .long 0), (0, .ref (a 12))]) hx hb dX7_together_31 hl (k := 1) rfl (by decide) (by decide) rfl (fun ls hl => ?_)
  refine lv_goto (tgt := 4) hx hb dX7_together_34 (by decide) ?_
  refine lv_iload_n hx hb dX7_together_4 rfl (lv_at hl 0 rfl) ?_
  refine lv_bipush (v := 6) hx hb dX7_together_5 (by decide) ?_
  refine lv_icmp_ge (tgt := 37) hx hb dX7_together_7 (by decide) (fun c => absurd c (by decide)) (fun _ => ?_)
  refine lv_lload_n hx hb dX7_together_10 rfl (lv_at hl 1 rfl) ?_
  refine lv_aload_n hx hb dX7_together_11 rfl (lv_at hl 2 rfl) ?_
  refine va_get (D := D) (ci := 7) (v := .ref (a 49)) (C := RX7) (T := TX7) (N := 3) hx hb hts inT_X7 hown hK.1 hP 0 rfl rfl 1 (by decide) (hts _ k_472) (fun _ h9 => h9) rfl dX7_together_12 ?_
  refine lv_iload_n hx hb dX7_together_15 rfl (lv_at hl 0 rfl) ?_
  refine l0_z hx hb hK hP 1 rfl (by unfold vp_in; decide) dX7_together_16 ?_
  refine lv_if_eq (tgt := 28) hx hb dX7_together_17 (by decide) (fun _ => ?_) (fun c => absurd c (by decide))
  refine lv_lconst (v := 0) hx hb dX7_together_28 (by decide) ?_
  refine lv_ladd hx hb dX7_together_29 ?_
  refine lv_topw (y := 0) (by decide) ?_
  refine lv_lstore_n (lv' := [(1, .long 0), (3, .int 4), (0, .ref (a 12))]) hx hb dX7_together_30 rfl hl (by decide) rfl (fun ls hl => ?_)
  refine lv_iinc (v := 5) (lv' := [(3, .int 5), (1, .long 0), (0, .ref (a 12))]) hx hb dX7_together_31 hl (k := 1) rfl (by decide) (by decide) rfl (fun ls hl => ?_)
  refine lv_goto (tgt := 4) hx hb dX7_together_34 (by decide) ?_
  refine lv_iload_n hx hb dX7_together_4 rfl (lv_at hl 0 rfl) ?_
  refine lv_bipush (v := 6) hx hb dX7_together_5 (by decide) ?_
  refine lv_icmp_ge (tgt := 37) hx hb dX7_together_7 (by decide) (fun c => absurd c (by decide)) (fun _ => ?_)
  refine lv_lload_n hx hb dX7_together_10 rfl (lv_at hl 1 rfl) ?_
  refine lv_aload_n hx hb dX7_together_11 rfl (lv_at hl 2 rfl) ?_
  refine va_get (D := D) (ci := 7) (v := .ref (a 49)) (C := RX7) (T := TX7) (N := 3) hx hb hts inT_X7 hown hK.1 hP 0 rfl rfl 1 (by decide) (hts _ k_472) (fun _ h9 => h9) rfl dX7_together_12 ?_
  refine lv_iload_n hx hb dX7_together_15 rfl (lv_at hl 0 rfl) ?_
  refine l0_z hx hb hK hP 1 rfl (by unfold vp_in; decide) dX7_together_16 ?_
  refine lv_if_eq (tgt := 28) hx hb dX7_together_17 (by decide) (fun _ => ?_) (fun c => absurd c (by decide))
  refine lv_lconst (v := 0) hx hb dX7_together_28 (by decide) ?_
  refine lv_ladd hx hb dX7_together_29 ?_
  refine lv_topw (y := 0) (by decide) ?_
  refine lv_lstore_n (lv' := [(1, .long 0), (3, .int 5), (0, .ref (a 12))]) hx hb dX7_together_30 rfl hl (by decide) rfl (fun ls hl => ?_)
  refine lv_iinc (v := 6) (lv' := [(3, .int 6), (1, .long 0), (0, .ref (a 12))]) hx hb dX7_together_31 hl (k := 1) rfl (by decide) (by decide) rfl (fun ls hl => ?_)
  refine lv_goto (tgt := 4) hx hb dX7_together_34 (by decide) ?_
  refine lv_iload_n hx hb dX7_together_4 rfl (lv_at hl 0 rfl) ?_
  refine lv_bipush (v := 6) hx hb dX7_together_5 (by decide) ?_
  refine lv_icmp_ge (tgt := 37) hx hb dX7_together_7 (by decide) (fun _ => ?_) (fun c => absurd c (by decide))
  refine lv_lload_n hx hb dX7_together_37 rfl (lv_at hl 1 rfl) ?_
  exact W.lret (v := 0) hx hb hr (fun t ht hW => ⟨⟨(0 : Int64), (), rfl, (lf_X7_together_1 a), trivial⟩, hS.F ht⟩) hS.2.2 dX7_together_38 hlocks

set_option maxHeartbeats 4000000 in
set_option maxRecDepth 100000 in
theorem c_X8_hasRoom (l : Launch) (D : va_G) (cI cB cZ cJ : ClassId) (tx : List (ClassId × FieldType)) (a : Nat → Nat) : WrI l D cI cB cZ cJ tx yX8_hasRoom cX8_hasRoom 2 (some .boolean) 0 0 0 [.ref (a 1), .int 20] [(a 1, .inr (8, [.ref (a 17), .int 0])), (a 17, .inl (cB, 220, .inl (fun _ => 0)))] (fun (r : Int32) (_ : Unit) => r = 1) (fun _ => [(a 1, .inr (8, [.ref (a 17), .int 0])), (a 17, .inl (cB, 220, .inl (fun _ => 0)))]) := by
  refine wri_of2 (by decide) (Nat.le_of_ble_eq_true rfl) ?_
  intro p e s m below meth c A ls H locs hC hK hP hD hA hS hl
  obtain ⟨hx, hb, hr, hml, hown, hts, hlocks, hin⟩ := hC
  have hown : s.vm.findClass RX8 = some m.cls := hown
  have hl : lv_has ls 2 [(0, .ref (a 1)), (1, .int 20)] := hl
  refine lv_iload_n hx hb dX8_hasRoom_0 rfl (lv_at hl 1 rfl) ?_
  refine lv_aload_n hx hb dX8_hasRoom_1 rfl (lv_at hl 0 rfl) ?_
  refine va_get (D := D) (ci := 8) (v := .ref (a 17)) (C := RX8) (T := TX8) (N := 2) hx hb hts inT_X8 hown hK.1 hP 0 rfl rfl 0 (by decide) (hts _ k_150) (fun _ h9 => h9) rfl dX8_hasRoom_2 ?_
  refine ln_x (v := 220) hx hb hK hP 1 1 rfl rfl (show Int32.ofNat 220 = 220 from by decide) dX8_hasRoom_5 ?_
  refine lv_aload_n hx hb dX8_hasRoom_6 rfl (lv_at hl 0 rfl) ?_
  refine va_get (D := D) (ci := 8) (v := .int 0) (C := RX8) (T := TX8) (N := 2) hx hb hts inT_X8 hown hK.1 hP 0 rfl rfl 1 (by decide) (hts _ k_151) (fun _ h9 => h9) rfl dX8_hasRoom_7 ?_
  refine lv_isub hx hb dX8_hasRoom_10 ?_
  refine lv_topv (y := 220) (by decide) ?_
  refine lv_icmp_gt (tgt := 18) hx hb dX8_hasRoom_11 (by decide) (fun c => absurd c (by decide)) (fun _ => ?_)
  refine lv_iconst (v := 1) hx hb dX8_hasRoom_14 (by decide) ?_
  refine lv_goto (tgt := 19) hx hb dX8_hasRoom_15 (by decide) ?_
  exact W.zret (v := 1) hx hb hr (by decide) (fun t ht hW => ⟨⟨(1 : Int32), (), rfl, rfl, ⟨by rw [ht]; exact hP, hD⟩⟩, hS.F ht⟩) hS.2.2 dX8_hasRoom_19 hlocks

set_option maxHeartbeats 4000000 in
set_option maxRecDepth 100000 in
theorem c_X8_put_0 (l : Launch) (D : va_G) (cI cB cZ cJ : ClassId) (tx : List (ClassId × FieldType)) (a : Nat → Nat) (f : Nat → Int32) (n1 : Int32) : WrV l D cI cB cZ cJ tx yX8_put cX8_put 3 none 0 0 0 [.ref (a 1), .int n1] [(a 1, .inr (8, [.ref (a 17), .int 0])), (a 17, .inl (cB, 220, .inl f))] (fun (_ : Nat → Int32) => True) (fun g => [(a 1, .inr (8, [.ref (a 17), .int 4])), (a 17, .inl (cB, 220, .inl g))]) := by
  refine wrv_of2 (by decide) (Nat.le_of_ble_eq_true rfl) ?_
  intro p e s m below meth c A ls H locs hC hK hP hD hA hS hl
  obtain ⟨hx, hb, hr, hml, hown, hts, hlocks, hin⟩ := hC
  have hown : s.vm.findClass RX8 = some m.cls := hown
  have hl : lv_has ls 3 [(0, .ref (a 1)), (1, .int n1)] := hl
  refine lv_bipush (v := 24) hx hb dX8_put_0 (by decide) ?_
  refine lv_istore_n (lv' := [(2, .int 24), (0, .ref (a 1)), (1, .int n1)]) hx hb dX8_put_2 rfl hl (by decide) rfl (fun ls hl => ?_)
  refine lv_iload_n hx hb dX8_put_3 rfl (lv_at hl 0 rfl) ?_
  refine lv_if_lt (tgt := 48) hx hb dX8_put_4 (by decide) (fun c => absurd c (by decide)) (fun _ => ?_)
  refine lv_aload_n hx hb dX8_put_7 rfl (lv_at hl 1 rfl) ?_
  refine va_get (D := D) (ci := 8) (v := .int 0) (C := RX8) (T := TX8) (N := 2) hx hb hts inT_X8 hown hK.1 hP 0 rfl rfl 1 (by decide) (hts _ k_151) (fun _ h9 => h9) rfl dX8_put_8 ?_
  refine lv_aload_n hx hb dX8_put_11 rfl (lv_at hl 1 rfl) ?_
  refine va_get (D := D) (ci := 8) (v := .ref (a 17)) (C := RX8) (T := TX8) (N := 2) hx hb hts inT_X8 hown hK.1 hP 0 rfl rfl 0 (by decide) (hts _ k_150) (fun _ h9 => h9) rfl dX8_put_12 ?_
  refine ln_x (v := 220) hx hb hK hP 1 1 rfl rfl (show Int32.ofNat 220 = 220 from by decide) dX8_put_15 ?_
  refine lv_icmp_ge (tgt := 48) hx hb dX8_put_16 (by decide) (fun c => absurd c (by decide)) (fun _ => ?_)
  refine lv_aload_n hx hb dX8_put_19 rfl (lv_at hl 1 rfl) ?_
  refine va_get (D := D) (ci := 8) (v := .ref (a 17)) (C := RX8) (T := TX8) (N := 2) hx hb hts inT_X8 hown hK.1 hP 0 rfl rfl 0 (by decide) (hts _ k_150) (fun _ h9 => h9) rfl dX8_put_20 ?_
  refine lv_aload_n hx hb dX8_put_23 rfl (lv_at hl 1 rfl) ?_
  refine va_get (D := D) (ci := 8) (v := .int 0) (C := RX8) (T := TX8) (N := 2) hx hb hts inT_X8 hown hK.1 hP 0 rfl rfl 1 (by decide) (hts _ k_151) (fun _ h9 => h9) rfl dX8_put_24 ?_
  refine lv_iload_n hx hb dX8_put_27 rfl (lv_at hl 2 rfl) ?_
  refine lv_iload_n hx hb dX8_put_28 rfl (lv_at hl 0 rfl) ?_
  refine lv_iushr hx hb dX8_put_29 rfl ?_
  refine lv_topi (fun x_1 _ => ?_)
  refine lv_i2b hx hb dX8_put_30 rfl ?_
  refine lv_topi (fun x_2 _ => ?_)
  refine st_b hx hb hK hP hD hS 1 rfl (by unfold vp_in; decide) dX8_put_31 (fun f_3 H locs hP hD hS => ?_)
  have hP : va_P D vwCl [(a 1, .inr (8, [.ref (a 17), .int 0])), (a 17, .inl (cB, 220, .inl f_3))] H := hP
  have hD : va_D A [(a 1, .inr (8, [.ref (a 17), .int 0])), (a 17, .inl (cB, 220, .inl f_3))] := hD
  refine lv_aload_n hx hb dX8_put_32 rfl (lv_at hl 1 rfl) ?_
  refine lv_dup hx hb dX8_put_33 rfl ?_
  refine va_get (D := D) (ci := 8) (v := .int 0) (C := RX8) (T := TX8) (N := 2) hx hb hts inT_X8 hown hK.1 hP 0 rfl rfl 1 (by decide) (hts _ k_151) (fun _ h9 => h9) rfl dX8_put_34 ?_
  refine lv_iconst (v := 1) hx hb dX8_put_37 (by decide) ?_
  refine lv_iadd hx hb dX8_put_38 ?_
  refine lv_topv (y := 1) (by decide) ?_
  refine va_put (D := D) (ci := 8) (v := .int 1) (ty := .int) (C := RX8) (T := TX8) (N := 2) hx hb hts inT_X8 tyX8 tyX8_ok nmX8 hown hK.1 hP hD hS 0 rfl rfl 1 (by decide) (hts _ k_151) (fun _ h9 => h9) rfl (by decide +kernel) rfl rfl (Nat.le_of_ble_eq_true rfl) dX8_put_39 (fun H locs hP hD hS => ?_)
  have hP : va_P D vwCl [(a 1, .inr (8, [.ref (a 17), .int 1])), (a 17, .inl (cB, 220, .inl f_3))] H := hP
  have hD : va_D A [(a 1, .inr (8, [.ref (a 17), .int 1])), (a 17, .inl (cB, 220, .inl f_3))] := hD
  refine lv_iinc (v := 16) (lv' := [(2, .int 16), (0, .ref (a 1)), (1, .int n1)]) hx hb dX8_put_42 hl (k := 0) rfl (by decide) (by decide) rfl (fun ls hl => ?_)
  refine lv_goto (tgt := 3) hx hb dX8_put_45 (by decide) ?_
  refine lv_iload_n hx hb dX8_put_3 rfl (lv_at hl 0 rfl) ?_
  refine lv_if_lt (tgt := 48) hx hb dX8_put_4 (by decide) (fun c => absurd c (by decide)) (fun _ => ?_)
  refine lv_aload_n hx hb dX8_put_7 rfl (lv_at hl 1 rfl) ?_
  refine va_get (D := D) (ci := 8) (v := .int 1) (C := RX8) (T := TX8) (N := 2) hx hb hts inT_X8 hown hK.1 hP 0 rfl rfl 1 (by decide) (hts _ k_151) (fun _ h9 => h9) rfl dX8_put_8 ?_
  refine lv_aload_n hx hb dX8_put_11 rfl (lv_at hl 1 rfl) ?_
  refine va_get (D := D) (ci := 8) (v := .ref (a 17)) (C := RX8) (T := TX8) (N := 2) hx hb hts inT_X8 hown hK.1 hP 0 rfl rfl 0 (by decide) (hts _ k_150) (fun _ h9 => h9) rfl dX8_put_12 ?_
  refine ln_x (v := 220) hx hb hK hP 1 1 rfl rfl (show Int32.ofNat 220 = 220 from by decide) dX8_put_15 ?_
  refine lv_icmp_ge (tgt := 48) hx hb dX8_put_16 (by decide) (fun c => absurd c (by decide)) (fun _ => ?_)
  refine lv_aload_n hx hb dX8_put_19 rfl (lv_at hl 1 rfl) ?_
  refine va_get (D := D) (ci := 8) (v := .ref (a 17)) (C := RX8) (T := TX8) (N := 2) hx hb hts inT_X8 hown hK.1 hP 0 rfl rfl 0 (by decide) (hts _ k_150) (fun _ h9 => h9) rfl dX8_put_20 ?_
  refine lv_aload_n hx hb dX8_put_23 rfl (lv_at hl 1 rfl) ?_
  refine va_get (D := D) (ci := 8) (v := .int 1) (C := RX8) (T := TX8) (N := 2) hx hb hts inT_X8 hown hK.1 hP 0 rfl rfl 1 (by decide) (hts _ k_151) (fun _ h9 => h9) rfl dX8_put_24 ?_
  refine lv_iload_n hx hb dX8_put_27 rfl (lv_at hl 2 rfl) ?_
  refine lv_iload_n hx hb dX8_put_28 rfl (lv_at hl 0 rfl) ?_
  refine lv_iushr hx hb dX8_put_29 rfl ?_
  refine lv_topi (fun x_4 _ => ?_)
  refine lv_i2b hx hb dX8_put_30 rfl ?_
  refine lv_topi (fun x_5 _ => ?_)
  refine st_b hx hb hK hP hD hS 1 rfl (by unfold vp_in; decide) dX8_put_31 (fun f_6 H locs hP hD hS => ?_)
  have hP : va_P D vwCl [(a 1, .inr (8, [.ref (a 17), .int 1])), (a 17, .inl (cB, 220, .inl f_6))] H := hP
  have hD : va_D A [(a 1, .inr (8, [.ref (a 17), .int 1])), (a 17, .inl (cB, 220, .inl f_6))] := hD
  refine lv_aload_n hx hb dX8_put_32 rfl (lv_at hl 1 rfl) ?_
  refine lv_dup hx hb dX8_put_33 rfl ?_
  refine va_get (D := D) (ci := 8) (v := .int 1) (C := RX8) (T := TX8) (N := 2) hx hb hts inT_X8 hown hK.1 hP 0 rfl rfl 1 (by decide) (hts _ k_151) (fun _ h9 => h9) rfl dX8_put_34 ?_
  refine lv_iconst (v := 1) hx hb dX8_put_37 (by decide) ?_
  refine lv_iadd hx hb dX8_put_38 ?_
  refine lv_topv (y := 2) (by decide) ?_
  refine va_put (D := D) (ci := 8) (v := .int 2) (ty := .int) (C := RX8) (T := TX8) (N := 2) hx hb hts inT_X8 tyX8 tyX8_ok nmX8 hown hK.1 hP hD hS 0 rfl rfl 1 (by decide) (hts _ k_151) (fun _ h9 => h9) rfl (by decide +kernel) rfl rfl (Nat.le_of_ble_eq_true rfl) dX8_put_39 (fun H locs hP hD hS => ?_)
  have hP : va_P D vwCl [(a 1, .inr (8, [.ref (a 17), .int 2])), (a 17, .inl (cB, 220, .inl f_6))] H := hP
  have hD : va_D A [(a 1, .inr (8, [.ref (a 17), .int 2])), (a 17, .inl (cB, 220, .inl f_6))] := hD
  refine lv_iinc (v := 8) (lv' := [(2, .int 8), (0, .ref (a 1)), (1, .int n1)]) hx hb dX8_put_42 hl (k := 0) rfl (by decide) (by decide) rfl (fun ls hl => ?_)
  refine lv_goto (tgt := 3) hx hb dX8_put_45 (by decide) ?_
  refine lv_iload_n hx hb dX8_put_3 rfl (lv_at hl 0 rfl) ?_
  refine lv_if_lt (tgt := 48) hx hb dX8_put_4 (by decide) (fun c => absurd c (by decide)) (fun _ => ?_)
  refine lv_aload_n hx hb dX8_put_7 rfl (lv_at hl 1 rfl) ?_
  refine va_get (D := D) (ci := 8) (v := .int 2) (C := RX8) (T := TX8) (N := 2) hx hb hts inT_X8 hown hK.1 hP 0 rfl rfl 1 (by decide) (hts _ k_151) (fun _ h9 => h9) rfl dX8_put_8 ?_
  refine lv_aload_n hx hb dX8_put_11 rfl (lv_at hl 1 rfl) ?_
  refine va_get (D := D) (ci := 8) (v := .ref (a 17)) (C := RX8) (T := TX8) (N := 2) hx hb hts inT_X8 hown hK.1 hP 0 rfl rfl 0 (by decide) (hts _ k_150) (fun _ h9 => h9) rfl dX8_put_12 ?_
  refine ln_x (v := 220) hx hb hK hP 1 1 rfl rfl (show Int32.ofNat 220 = 220 from by decide) dX8_put_15 ?_
  refine lv_icmp_ge (tgt := 48) hx hb dX8_put_16 (by decide) (fun c => absurd c (by decide)) (fun _ => ?_)
  refine lv_aload_n hx hb dX8_put_19 rfl (lv_at hl 1 rfl) ?_
  refine va_get (D := D) (ci := 8) (v := .ref (a 17)) (C := RX8) (T := TX8) (N := 2) hx hb hts inT_X8 hown hK.1 hP 0 rfl rfl 0 (by decide) (hts _ k_150) (fun _ h9 => h9) rfl dX8_put_20 ?_
  refine lv_aload_n hx hb dX8_put_23 rfl (lv_at hl 1 rfl) ?_
  refine va_get (D := D) (ci := 8) (v := .int 2) (C := RX8) (T := TX8) (N := 2) hx hb hts inT_X8 hown hK.1 hP 0 rfl rfl 1 (by decide) (hts _ k_151) (fun _ h9 => h9) rfl dX8_put_24 ?_
  refine lv_iload_n hx hb dX8_put_27 rfl (lv_at hl 2 rfl) ?_
  refine lv_iload_n hx hb dX8_put_28 rfl (lv_at hl 0 rfl) ?_
  refine lv_iushr hx hb dX8_put_29 rfl ?_
  refine lv_topi (fun x_7 _ => ?_)
  refine lv_i2b hx hb dX8_put_30 rfl ?_
  refine lv_topi (fun x_8 _ => ?_)
  refine st_b hx hb hK hP hD hS 1 rfl (by unfold vp_in; decide) dX8_put_31 (fun f_9 H locs hP hD hS => ?_)
  have hP : va_P D vwCl [(a 1, .inr (8, [.ref (a 17), .int 2])), (a 17, .inl (cB, 220, .inl f_9))] H := hP
  have hD : va_D A [(a 1, .inr (8, [.ref (a 17), .int 2])), (a 17, .inl (cB, 220, .inl f_9))] := hD
  refine lv_aload_n hx hb dX8_put_32 rfl (lv_at hl 1 rfl) ?_
  refine lv_dup hx hb dX8_put_33 rfl ?_
  refine va_get (D := D) (ci := 8) (v := .int 2) (C := RX8) (T := TX8) (N := 2) hx hb hts inT_X8 hown hK.1 hP 0 rfl rfl 1 (by decide) (hts _ k_151) (fun _ h9 => h9) rfl dX8_put_34 ?_
  refine lv_iconst (v := 1) hx hb dX8_put_37 (by decide) ?_
  refine lv_iadd hx hb dX8_put_38 ?_
  refine lv_topv (y := 3) (by decide) ?_
  refine va_put (D := D) (ci := 8) (v := .int 3) (ty := .int) (C := RX8) (T := TX8) (N := 2) hx hb hts inT_X8 tyX8 tyX8_ok nmX8 hown hK.1 hP hD hS 0 rfl rfl 1 (by decide) (hts _ k_151) (fun _ h9 => h9) rfl (by decide +kernel) rfl rfl (Nat.le_of_ble_eq_true rfl) dX8_put_39 (fun H locs hP hD hS => ?_)
  have hP : va_P D vwCl [(a 1, .inr (8, [.ref (a 17), .int 3])), (a 17, .inl (cB, 220, .inl f_9))] H := hP
  have hD : va_D A [(a 1, .inr (8, [.ref (a 17), .int 3])), (a 17, .inl (cB, 220, .inl f_9))] := hD
  refine lv_iinc (v := 0) (lv' := [(2, .int 0), (0, .ref (a 1)), (1, .int n1)]) hx hb dX8_put_42 hl (k := 0) rfl (by decide) (by decide) rfl (fun ls hl => ?_)
  refine lv_goto (tgt := 3) hx hb dX8_put_45 (by decide) ?_
  refine lv_iload_n hx hb dX8_put_3 rfl (lv_at hl 0 rfl) ?_
  refine lv_if_lt (tgt := 48) hx hb dX8_put_4 (by decide) (fun c => absurd c (by decide)) (fun _ => ?_)
  refine lv_aload_n hx hb dX8_put_7 rfl (lv_at hl 1 rfl) ?_
  refine va_get (D := D) (ci := 8) (v := .int 3) (C := RX8) (T := TX8) (N := 2) hx hb hts inT_X8 hown hK.1 hP 0 rfl rfl 1 (by decide) (hts _ k_151) (fun _ h9 => h9) rfl dX8_put_8 ?_
  refine lv_aload_n hx hb dX8_put_11 rfl (lv_at hl 1 rfl) ?_
  refine va_get (D := D) (ci := 8) (v := .ref (a 17)) (C := RX8) (T := TX8) (N := 2) hx hb hts inT_X8 hown hK.1 hP 0 rfl rfl 0 (by decide) (hts _ k_150) (fun _ h9 => h9) rfl dX8_put_12 ?_
  refine ln_x (v := 220) hx hb hK hP 1 1 rfl rfl (show Int32.ofNat 220 = 220 from by decide) dX8_put_15 ?_
  refine lv_icmp_ge (tgt := 48) hx hb dX8_put_16 (by decide) (fun c => absurd c (by decide)) (fun _ => ?_)
  refine lv_aload_n hx hb dX8_put_19 rfl (lv_at hl 1 rfl) ?_
  refine va_get (D := D) (ci := 8) (v := .ref (a 17)) (C := RX8) (T := TX8) (N := 2) hx hb hts inT_X8 hown hK.1 hP 0 rfl rfl 0 (by decide) (hts _ k_150) (fun _ h9 => h9) rfl dX8_put_20 ?_
  refine lv_aload_n hx hb dX8_put_23 rfl (lv_at hl 1 rfl) ?_
  refine va_get (D := D) (ci := 8) (v := .int 3) (C := RX8) (T := TX8) (N := 2) hx hb hts inT_X8 hown hK.1 hP 0 rfl rfl 1 (by decide) (hts _ k_151) (fun _ h9 => h9) rfl dX8_put_24 ?_
  refine lv_iload_n hx hb dX8_put_27 rfl (lv_at hl 2 rfl) ?_
  refine lv_iload_n hx hb dX8_put_28 rfl (lv_at hl 0 rfl) ?_
  refine lv_iushr hx hb dX8_put_29 rfl ?_
  refine lv_topi (fun x_10 _ => ?_)
  refine lv_i2b hx hb dX8_put_30 rfl ?_
  refine lv_topi (fun x_11 _ => ?_)
  refine st_b hx hb hK hP hD hS 1 rfl (by unfold vp_in; decide) dX8_put_31 (fun f_12 H locs hP hD hS => ?_)
  have hP : va_P D vwCl [(a 1, .inr (8, [.ref (a 17), .int 3])), (a 17, .inl (cB, 220, .inl f_12))] H := hP
  have hD : va_D A [(a 1, .inr (8, [.ref (a 17), .int 3])), (a 17, .inl (cB, 220, .inl f_12))] := hD
  refine lv_aload_n hx hb dX8_put_32 rfl (lv_at hl 1 rfl) ?_
  refine lv_dup hx hb dX8_put_33 rfl ?_
  refine va_get (D := D) (ci := 8) (v := .int 3) (C := RX8) (T := TX8) (N := 2) hx hb hts inT_X8 hown hK.1 hP 0 rfl rfl 1 (by decide) (hts _ k_151) (fun _ h9 => h9) rfl dX8_put_34 ?_
  refine lv_iconst (v := 1) hx hb dX8_put_37 (by decide) ?_
  refine lv_iadd hx hb dX8_put_38 ?_
  refine lv_topv (y := 4) (by decide) ?_
  refine va_put (D := D) (ci := 8) (v := .int 4) (ty := .int) (C := RX8) (T := TX8) (N := 2) hx hb hts inT_X8 tyX8 tyX8_ok nmX8 hown hK.1 hP hD hS 0 rfl rfl 1 (by decide) (hts _ k_151) (fun _ h9 => h9) rfl (by decide +kernel) rfl rfl (Nat.le_of_ble_eq_true rfl) dX8_put_39 (fun H locs hP hD hS => ?_)
  have hP : va_P D vwCl [(a 1, .inr (8, [.ref (a 17), .int 4])), (a 17, .inl (cB, 220, .inl f_12))] H := hP
  have hD : va_D A [(a 1, .inr (8, [.ref (a 17), .int 4])), (a 17, .inl (cB, 220, .inl f_12))] := hD
  refine lv_iinc (v := (-8)) (lv' := [(2, .int (-8)), (0, .ref (a 1)), (1, .int n1)]) hx hb dX8_put_42 hl (k := 0) rfl (by decide) (by decide) rfl (fun ls hl => ?_)
  refine lv_goto (tgt := 3) hx hb dX8_put_45 (by decide) ?_
  refine lv_iload_n hx hb dX8_put_3 rfl (lv_at hl 0 rfl) ?_
  refine lv_if_lt (tgt := 48) hx hb dX8_put_4 (by decide) (fun _ => ?_) (fun c => absurd c (by decide))
  exact W.vret hx hb hr (fun t ht hW => ⟨⟨f_12, rfl, trivial, ⟨by rw [ht]; exact hP, hD⟩⟩, hS.F ht⟩) hS.2.2 dX8_put_48 hlocks

set_option maxHeartbeats 4000000 in
set_option maxRecDepth 100000 in
theorem c_X8_put_4 (l : Launch) (D : va_G) (cI cB cZ cJ : ClassId) (tx : List (ClassId × FieldType)) (a : Nat → Nat) (f : Nat → Int32) (n1 : Int32) : WrV l D cI cB cZ cJ tx yX8_put cX8_put 3 none 0 0 0 [.ref (a 1), .int n1] [(a 1, .inr (8, [.ref (a 17), .int 4])), (a 17, .inl (cB, 220, .inl f))] (fun (_ : Nat → Int32) => True) (fun g => [(a 1, .inr (8, [.ref (a 17), .int 8])), (a 17, .inl (cB, 220, .inl g))]) := by
  refine wrv_of2 (by decide) (Nat.le_of_ble_eq_true rfl) ?_
  intro p e s m below meth c A ls H locs hC hK hP hD hA hS hl
  obtain ⟨hx, hb, hr, hml, hown, hts, hlocks, hin⟩ := hC
  have hown : s.vm.findClass RX8 = some m.cls := hown
  have hl : lv_has ls 3 [(0, .ref (a 1)), (1, .int n1)] := hl
  refine lv_bipush (v := 24) hx hb dX8_put_0 (by decide) ?_
  refine lv_istore_n (lv' := [(2, .int 24), (0, .ref (a 1)), (1, .int n1)]) hx hb dX8_put_2 rfl hl (by decide) rfl (fun ls hl => ?_)
  refine lv_iload_n hx hb dX8_put_3 rfl (lv_at hl 0 rfl) ?_
  refine lv_if_lt (tgt := 48) hx hb dX8_put_4 (by decide) (fun c => absurd c (by decide)) (fun _ => ?_)
  refine lv_aload_n hx hb dX8_put_7 rfl (lv_at hl 1 rfl) ?_
  refine va_get (D := D) (ci := 8) (v := .int 4) (C := RX8) (T := TX8) (N := 2) hx hb hts inT_X8 hown hK.1 hP 0 rfl rfl 1 (by decide) (hts _ k_151) (fun _ h9 => h9) rfl dX8_put_8 ?_
  refine lv_aload_n hx hb dX8_put_11 rfl (lv_at hl 1 rfl) ?_
  refine va_get (D := D) (ci := 8) (v := .ref (a 17)) (C := RX8) (T := TX8) (N := 2) hx hb hts inT_X8 hown hK.1 hP 0 rfl rfl 0 (by decide) (hts _ k_150) (fun _ h9 => h9) rfl dX8_put_12 ?_
  refine ln_x (v := 220) hx hb hK hP 1 1 rfl rfl (show Int32.ofNat 220 = 220 from by decide) dX8_put_15 ?_
  refine lv_icmp_ge (tgt := 48) hx hb dX8_put_16 (by decide) (fun c => absurd c (by decide)) (fun _ => ?_)
  refine lv_aload_n hx hb dX8_put_19 rfl (lv_at hl 1 rfl) ?_
  refine va_get (D := D) (ci := 8) (v := .ref (a 17)) (C := RX8) (T := TX8) (N := 2) hx hb hts inT_X8 hown hK.1 hP 0 rfl rfl 0 (by decide) (hts _ k_150) (fun _ h9 => h9) rfl dX8_put_20 ?_
  refine lv_aload_n hx hb dX8_put_23 rfl (lv_at hl 1 rfl) ?_
  refine va_get (D := D) (ci := 8) (v := .int 4) (C := RX8) (T := TX8) (N := 2) hx hb hts inT_X8 hown hK.1 hP 0 rfl rfl 1 (by decide) (hts _ k_151) (fun _ h9 => h9) rfl dX8_put_24 ?_
  refine lv_iload_n hx hb dX8_put_27 rfl (lv_at hl 2 rfl) ?_
  refine lv_iload_n hx hb dX8_put_28 rfl (lv_at hl 0 rfl) ?_
  refine lv_iushr hx hb dX8_put_29 rfl ?_
  refine lv_topi (fun x_1 _ => ?_)
  refine lv_i2b hx hb dX8_put_30 rfl ?_
  refine lv_topi (fun x_2 _ => ?_)
  refine st_b hx hb hK hP hD hS 1 rfl (by unfold vp_in; decide) dX8_put_31 (fun f_3 H locs hP hD hS => ?_)
  have hP : va_P D vwCl [(a 1, .inr (8, [.ref (a 17), .int 4])), (a 17, .inl (cB, 220, .inl f_3))] H := hP
  have hD : va_D A [(a 1, .inr (8, [.ref (a 17), .int 4])), (a 17, .inl (cB, 220, .inl f_3))] := hD
  refine lv_aload_n hx hb dX8_put_32 rfl (lv_at hl 1 rfl) ?_
  refine lv_dup hx hb dX8_put_33 rfl ?_
  refine va_get (D := D) (ci := 8) (v := .int 4) (C := RX8) (T := TX8) (N := 2) hx hb hts inT_X8 hown hK.1 hP 0 rfl rfl 1 (by decide) (hts _ k_151) (fun _ h9 => h9) rfl dX8_put_34 ?_
  refine lv_iconst (v := 1) hx hb dX8_put_37 (by decide) ?_
  refine lv_iadd hx hb dX8_put_38 ?_
  refine lv_topv (y := 5) (by decide) ?_
  refine va_put (D := D) (ci := 8) (v := .int 5) (ty := .int) (C := RX8) (T := TX8) (N := 2) hx hb hts inT_X8 tyX8 tyX8_ok nmX8 hown hK.1 hP hD hS 0 rfl rfl 1 (by decide) (hts _ k_151) (fun _ h9 => h9) rfl (by decide +kernel) rfl rfl (Nat.le_of_ble_eq_true rfl) dX8_put_39 (fun H locs hP hD hS => ?_)
  have hP : va_P D vwCl [(a 1, .inr (8, [.ref (a 17), .int 5])), (a 17, .inl (cB, 220, .inl f_3))] H := hP
  have hD : va_D A [(a 1, .inr (8, [.ref (a 17), .int 5])), (a 17, .inl (cB, 220, .inl f_3))] := hD
  refine lv_iinc (v := 16) (lv' := [(2, .int 16), (0, .ref (a 1)), (1, .int n1)]) hx hb dX8_put_42 hl (k := 0) rfl (by decide) (by decide) rfl (fun ls hl => ?_)
  refine lv_goto (tgt := 3) hx hb dX8_put_45 (by decide) ?_
  refine lv_iload_n hx hb dX8_put_3 rfl (lv_at hl 0 rfl) ?_
  refine lv_if_lt (tgt := 48) hx hb dX8_put_4 (by decide) (fun c => absurd c (by decide)) (fun _ => ?_)
  refine lv_aload_n hx hb dX8_put_7 rfl (lv_at hl 1 rfl) ?_
  refine va_get (D := D) (ci := 8) (v := .int 5) (C := RX8) (T := TX8) (N := 2) hx hb hts inT_X8 hown hK.1 hP 0 rfl rfl 1 (by decide) (hts _ k_151) (fun _ h9 => h9) rfl dX8_put_8 ?_
  refine lv_aload_n hx hb dX8_put_11 rfl (lv_at hl 1 rfl) ?_
  refine va_get (D := D) (ci := 8) (v := .ref (a 17)) (C := RX8) (T := TX8) (N := 2) hx hb hts inT_X8 hown hK.1 hP 0 rfl rfl 0 (by decide) (hts _ k_150) (fun _ h9 => h9) rfl dX8_put_12 ?_
  refine ln_x (v := 220) hx hb hK hP 1 1 rfl rfl (show Int32.ofNat 220 = 220 from by decide) dX8_put_15 ?_
  refine lv_icmp_ge (tgt := 48) hx hb dX8_put_16 (by decide) (fun c => absurd c (by decide)) (fun _ => ?_)
  refine lv_aload_n hx hb dX8_put_19 rfl (lv_at hl 1 rfl) ?_
  refine va_get (D := D) (ci := 8) (v := .ref (a 17)) (C := RX8) (T := TX8) (N := 2) hx hb hts inT_X8 hown hK.1 hP 0 rfl rfl 0 (by decide) (hts _ k_150) (fun _ h9 => h9) rfl dX8_put_20 ?_
  refine lv_aload_n hx hb dX8_put_23 rfl (lv_at hl 1 rfl) ?_
  refine va_get (D := D) (ci := 8) (v := .int 5) (C := RX8) (T := TX8) (N := 2) hx hb hts inT_X8 hown hK.1 hP 0 rfl rfl 1 (by decide) (hts _ k_151) (fun _ h9 => h9) rfl dX8_put_24 ?_
  refine lv_iload_n hx hb dX8_put_27 rfl (lv_at hl 2 rfl) ?_
  refine lv_iload_n hx hb dX8_put_28 rfl (lv_at hl 0 rfl) ?_
  refine lv_iushr hx hb dX8_put_29 rfl ?_
  refine lv_topi (fun x_4 _ => ?_)
  refine lv_i2b hx hb dX8_put_30 rfl ?_
  refine lv_topi (fun x_5 _ => ?_)
  refine st_b hx hb hK hP hD hS 1 rfl (by unfold vp_in; decide) dX8_put_31 (fun f_6 H locs hP hD hS => ?_)
  have hP : va_P D vwCl [(a 1, .inr (8, [.ref (a 17), .int 5])), (a 17, .inl (cB, 220, .inl f_6))] H := hP
  have hD : va_D A [(a 1, .inr (8, [.ref (a 17), .int 5])), (a 17, .inl (cB, 220, .inl f_6))] := hD
  refine lv_aload_n hx hb dX8_put_32 rfl (lv_at hl 1 rfl) ?_
  refine lv_dup hx hb dX8_put_33 rfl ?_
  refine va_get (D := D) (ci := 8) (v := .int 5) (C := RX8) (T := TX8) (N := 2) hx hb hts inT_X8 hown hK.1 hP 0 rfl rfl 1 (by decide) (hts _ k_151) (fun _ h9 => h9) rfl dX8_put_34 ?_
  refine lv_iconst (v := 1) hx hb dX8_put_37 (by decide) ?_
  refine lv_iadd hx hb dX8_put_38 ?_
  refine lv_topv (y := 6) (by decide) ?_
  refine va_put (D := D) (ci := 8) (v := .int 6) (ty := .int) (C := RX8) (T := TX8) (N := 2) hx hb hts inT_X8 tyX8 tyX8_ok nmX8 hown hK.1 hP hD hS 0 rfl rfl 1 (by decide) (hts _ k_151) (fun _ h9 => h9) rfl (by decide +kernel) rfl rfl (Nat.le_of_ble_eq_true rfl) dX8_put_39 (fun H locs hP hD hS => ?_)
  have hP : va_P D vwCl [(a 1, .inr (8, [.ref (a 17), .int 6])), (a 17, .inl (cB, 220, .inl f_6))] H := hP
  have hD : va_D A [(a 1, .inr (8, [.ref (a 17), .int 6])), (a 17, .inl (cB, 220, .inl f_6))] := hD
  refine lv_iinc (v := 8) (lv' := [(2, .int 8), (0, .ref (a 1)), (1, .int n1)]) hx hb dX8_put_42 hl (k := 0) rfl (by decide) (by decide) rfl (fun ls hl => ?_)
  refine lv_goto (tgt := 3) hx hb dX8_put_45 (by decide) ?_
  refine lv_iload_n hx hb dX8_put_3 rfl (lv_at hl 0 rfl) ?_
  refine lv_if_lt (tgt := 48) hx hb dX8_put_4 (by decide) (fun c => absurd c (by decide)) (fun _ => ?_)
  refine lv_aload_n hx hb dX8_put_7 rfl (lv_at hl 1 rfl) ?_
  refine va_get (D := D) (ci := 8) (v := .int 6) (C := RX8) (T := TX8) (N := 2) hx hb hts inT_X8 hown hK.1 hP 0 rfl rfl 1 (by decide) (hts _ k_151) (fun _ h9 => h9) rfl dX8_put_8 ?_
  refine lv_aload_n hx hb dX8_put_11 rfl (lv_at hl 1 rfl) ?_
  refine va_get (D := D) (ci := 8) (v := .ref (a 17)) (C := RX8) (T := TX8) (N := 2) hx hb hts inT_X8 hown hK.1 hP 0 rfl rfl 0 (by decide) (hts _ k_150) (fun _ h9 => h9) rfl dX8_put_12 ?_
  refine ln_x (v := 220) hx hb hK hP 1 1 rfl rfl (show Int32.ofNat 220 = 220 from by decide) dX8_put_15 ?_
  refine lv_icmp_ge (tgt := 48) hx hb dX8_put_16 (by decide) (fun c => absurd c (by decide)) (fun _ => ?_)
  refine lv_aload_n hx hb dX8_put_19 rfl (lv_at hl 1 rfl) ?_
  refine va_get (D := D) (ci := 8) (v := .ref (a 17)) (C := RX8) (T := TX8) (N := 2) hx hb hts inT_X8 hown hK.1 hP 0 rfl rfl 0 (by decide) (hts _ k_150) (fun _ h9 => h9) rfl dX8_put_20 ?_
  refine lv_aload_n hx hb dX8_put_23 rfl (lv_at hl 1 rfl) ?_
  refine va_get (D := D) (ci := 8) (v := .int 6) (C := RX8) (T := TX8) (N := 2) hx hb hts inT_X8 hown hK.1 hP 0 rfl rfl 1 (by decide) (hts _ k_151) (fun _ h9 => h9) rfl dX8_put_24 ?_
  refine lv_iload_n hx hb dX8_put_27 rfl (lv_at hl 2 rfl) ?_
  refine lv_iload_n hx hb dX8_put_28 rfl (lv_at hl 0 rfl) ?_
  refine lv_iushr hx hb dX8_put_29 rfl ?_
  refine lv_topi (fun x_7 _ => ?_)
  refine lv_i2b hx hb dX8_put_30 rfl ?_
  refine lv_topi (fun x_8 _ => ?_)
  refine st_b hx hb hK hP hD hS 1 rfl (by unfold vp_in; decide) dX8_put_31 (fun f_9 H locs hP hD hS => ?_)
  have hP : va_P D vwCl [(a 1, .inr (8, [.ref (a 17), .int 6])), (a 17, .inl (cB, 220, .inl f_9))] H := hP
  have hD : va_D A [(a 1, .inr (8, [.ref (a 17), .int 6])), (a 17, .inl (cB, 220, .inl f_9))] := hD
  refine lv_aload_n hx hb dX8_put_32 rfl (lv_at hl 1 rfl) ?_
  refine lv_dup hx hb dX8_put_33 rfl ?_
  refine va_get (D := D) (ci := 8) (v := .int 6) (C := RX8) (T := TX8) (N := 2) hx hb hts inT_X8 hown hK.1 hP 0 rfl rfl 1 (by decide) (hts _ k_151) (fun _ h9 => h9) rfl dX8_put_34 ?_
  refine lv_iconst (v := 1) hx hb dX8_put_37 (by decide) ?_
  refine lv_iadd hx hb dX8_put_38 ?_
  refine lv_topv (y := 7) (by decide) ?_
  refine va_put (D := D) (ci := 8) (v := .int 7) (ty := .int) (C := RX8) (T := TX8) (N := 2) hx hb hts inT_X8 tyX8 tyX8_ok nmX8 hown hK.1 hP hD hS 0 rfl rfl 1 (by decide) (hts _ k_151) (fun _ h9 => h9) rfl (by decide +kernel) rfl rfl (Nat.le_of_ble_eq_true rfl) dX8_put_39 (fun H locs hP hD hS => ?_)
  have hP : va_P D vwCl [(a 1, .inr (8, [.ref (a 17), .int 7])), (a 17, .inl (cB, 220, .inl f_9))] H := hP
  have hD : va_D A [(a 1, .inr (8, [.ref (a 17), .int 7])), (a 17, .inl (cB, 220, .inl f_9))] := hD
  refine lv_iinc (v := 0) (lv' := [(2, .int 0), (0, .ref (a 1)), (1, .int n1)]) hx hb dX8_put_42 hl (k := 0) rfl (by decide) (by decide) rfl (fun ls hl => ?_)
  refine lv_goto (tgt := 3) hx hb dX8_put_45 (by decide) ?_
  refine lv_iload_n hx hb dX8_put_3 rfl (lv_at hl 0 rfl) ?_
  refine lv_if_lt (tgt := 48) hx hb dX8_put_4 (by decide) (fun c => absurd c (by decide)) (fun _ => ?_)
  refine lv_aload_n hx hb dX8_put_7 rfl (lv_at hl 1 rfl) ?_
  refine va_get (D := D) (ci := 8) (v := .int 7) (C := RX8) (T := TX8) (N := 2) hx hb hts inT_X8 hown hK.1 hP 0 rfl rfl 1 (by decide) (hts _ k_151) (fun _ h9 => h9) rfl dX8_put_8 ?_
  refine lv_aload_n hx hb dX8_put_11 rfl (lv_at hl 1 rfl) ?_
  refine va_get (D := D) (ci := 8) (v := .ref (a 17)) (C := RX8) (T := TX8) (N := 2) hx hb hts inT_X8 hown hK.1 hP 0 rfl rfl 0 (by decide) (hts _ k_150) (fun _ h9 => h9) rfl dX8_put_12 ?_
  refine ln_x (v := 220) hx hb hK hP 1 1 rfl rfl (show Int32.ofNat 220 = 220 from by decide) dX8_put_15 ?_
  refine lv_icmp_ge (tgt := 48) hx hb dX8_put_16 (by decide) (fun c => absurd c (by decide)) (fun _ => ?_)
  refine lv_aload_n hx hb dX8_put_19 rfl (lv_at hl 1 rfl) ?_
  refine va_get (D := D) (ci := 8) (v := .ref (a 17)) (C := RX8) (T := TX8) (N := 2) hx hb hts inT_X8 hown hK.1 hP 0 rfl rfl 0 (by decide) (hts _ k_150) (fun _ h9 => h9) rfl dX8_put_20 ?_
  refine lv_aload_n hx hb dX8_put_23 rfl (lv_at hl 1 rfl) ?_
  refine va_get (D := D) (ci := 8) (v := .int 7) (C := RX8) (T := TX8) (N := 2) hx hb hts inT_X8 hown hK.1 hP 0 rfl rfl 1 (by decide) (hts _ k_151) (fun _ h9 => h9) rfl dX8_put_24 ?_
  refine lv_iload_n hx hb dX8_put_27 rfl (lv_at hl 2 rfl) ?_
  refine lv_iload_n hx hb dX8_put_28 rfl (lv_at hl 0 rfl) ?_
  refine lv_iushr hx hb dX8_put_29 rfl ?_
  refine lv_topi (fun x_10 _ => ?_)
  refine lv_i2b hx hb dX8_put_30 rfl ?_
  refine lv_topi (fun x_11 _ => ?_)
  refine st_b hx hb hK hP hD hS 1 rfl (by unfold vp_in; decide) dX8_put_31 (fun f_12 H locs hP hD hS => ?_)
  have hP : va_P D vwCl [(a 1, .inr (8, [.ref (a 17), .int 7])), (a 17, .inl (cB, 220, .inl f_12))] H := hP
  have hD : va_D A [(a 1, .inr (8, [.ref (a 17), .int 7])), (a 17, .inl (cB, 220, .inl f_12))] := hD
  refine lv_aload_n hx hb dX8_put_32 rfl (lv_at hl 1 rfl) ?_
  refine lv_dup hx hb dX8_put_33 rfl ?_
  refine va_get (D := D) (ci := 8) (v := .int 7) (C := RX8) (T := TX8) (N := 2) hx hb hts inT_X8 hown hK.1 hP 0 rfl rfl 1 (by decide) (hts _ k_151) (fun _ h9 => h9) rfl dX8_put_34 ?_
  refine lv_iconst (v := 1) hx hb dX8_put_37 (by decide) ?_
  refine lv_iadd hx hb dX8_put_38 ?_
  refine lv_topv (y := 8) (by decide) ?_
  refine va_put (D := D) (ci := 8) (v := .int 8) (ty := .int) (C := RX8) (T := TX8) (N := 2) hx hb hts inT_X8 tyX8 tyX8_ok nmX8 hown hK.1 hP hD hS 0 rfl rfl 1 (by decide) (hts _ k_151) (fun _ h9 => h9) rfl (by decide +kernel) rfl rfl (Nat.le_of_ble_eq_true rfl) dX8_put_39 (fun H locs hP hD hS => ?_)
  have hP : va_P D vwCl [(a 1, .inr (8, [.ref (a 17), .int 8])), (a 17, .inl (cB, 220, .inl f_12))] H := hP
  have hD : va_D A [(a 1, .inr (8, [.ref (a 17), .int 8])), (a 17, .inl (cB, 220, .inl f_12))] := hD
  refine lv_iinc (v := (-8)) (lv' := [(2, .int (-8)), (0, .ref (a 1)), (1, .int n1)]) hx hb dX8_put_42 hl (k := 0) rfl (by decide) (by decide) rfl (fun ls hl => ?_)
  refine lv_goto (tgt := 3) hx hb dX8_put_45 (by decide) ?_
  refine lv_iload_n hx hb dX8_put_3 rfl (lv_at hl 0 rfl) ?_
  refine lv_if_lt (tgt := 48) hx hb dX8_put_4 (by decide) (fun _ => ?_) (fun c => absurd c (by decide))
  exact W.vret hx hb hr (fun t ht hW => ⟨⟨f_12, rfl, trivial, ⟨by rw [ht]; exact hP, hD⟩⟩, hS.F ht⟩) hS.2.2 dX8_put_48 hlocks

set_option maxHeartbeats 4000000 in
set_option maxRecDepth 100000 in
theorem c_X8_put_8 (l : Launch) (D : va_G) (cI cB cZ cJ : ClassId) (tx : List (ClassId × FieldType)) (a : Nat → Nat) (f : Nat → Int32) (n1 : Int32) : WrV l D cI cB cZ cJ tx yX8_put cX8_put 3 none 0 0 0 [.ref (a 1), .int n1] [(a 1, .inr (8, [.ref (a 17), .int 8])), (a 17, .inl (cB, 220, .inl f))] (fun (_ : Nat → Int32) => True) (fun g => [(a 1, .inr (8, [.ref (a 17), .int 12])), (a 17, .inl (cB, 220, .inl g))]) := by
  refine wrv_of2 (by decide) (Nat.le_of_ble_eq_true rfl) ?_
  intro p e s m below meth c A ls H locs hC hK hP hD hA hS hl
  obtain ⟨hx, hb, hr, hml, hown, hts, hlocks, hin⟩ := hC
  have hown : s.vm.findClass RX8 = some m.cls := hown
  have hl : lv_has ls 3 [(0, .ref (a 1)), (1, .int n1)] := hl
  refine lv_bipush (v := 24) hx hb dX8_put_0 (by decide) ?_
  refine lv_istore_n (lv' := [(2, .int 24), (0, .ref (a 1)), (1, .int n1)]) hx hb dX8_put_2 rfl hl (by decide) rfl (fun ls hl => ?_)
  refine lv_iload_n hx hb dX8_put_3 rfl (lv_at hl 0 rfl) ?_
  refine lv_if_lt (tgt := 48) hx hb dX8_put_4 (by decide) (fun c => absurd c (by decide)) (fun _ => ?_)
  refine lv_aload_n hx hb dX8_put_7 rfl (lv_at hl 1 rfl) ?_
  refine va_get (D := D) (ci := 8) (v := .int 8) (C := RX8) (T := TX8) (N := 2) hx hb hts inT_X8 hown hK.1 hP 0 rfl rfl 1 (by decide) (hts _ k_151) (fun _ h9 => h9) rfl dX8_put_8 ?_
  refine lv_aload_n hx hb dX8_put_11 rfl (lv_at hl 1 rfl) ?_
  refine va_get (D := D) (ci := 8) (v := .ref (a 17)) (C := RX8) (T := TX8) (N := 2) hx hb hts inT_X8 hown hK.1 hP 0 rfl rfl 0 (by decide) (hts _ k_150) (fun _ h9 => h9) rfl dX8_put_12 ?_
  refine ln_x (v := 220) hx hb hK hP 1 1 rfl rfl (show Int32.ofNat 220 = 220 from by decide) dX8_put_15 ?_
  refine lv_icmp_ge (tgt := 48) hx hb dX8_put_16 (by decide) (fun c => absurd c (by decide)) (fun _ => ?_)
  refine lv_aload_n hx hb dX8_put_19 rfl (lv_at hl 1 rfl) ?_
  refine va_get (D := D) (ci := 8) (v := .ref (a 17)) (C := RX8) (T := TX8) (N := 2) hx hb hts inT_X8 hown hK.1 hP 0 rfl rfl 0 (by decide) (hts _ k_150) (fun _ h9 => h9) rfl dX8_put_20 ?_
  refine lv_aload_n hx hb dX8_put_23 rfl (lv_at hl 1 rfl) ?_
  refine va_get (D := D) (ci := 8) (v := .int 8) (C := RX8) (T := TX8) (N := 2) hx hb hts inT_X8 hown hK.1 hP 0 rfl rfl 1 (by decide) (hts _ k_151) (fun _ h9 => h9) rfl dX8_put_24 ?_
  refine lv_iload_n hx hb dX8_put_27 rfl (lv_at hl 2 rfl) ?_
  refine lv_iload_n hx hb dX8_put_28 rfl (lv_at hl 0 rfl) ?_
  refine lv_iushr hx hb dX8_put_29 rfl ?_
  refine lv_topi (fun x_1 _ => ?_)
  refine lv_i2b hx hb dX8_put_30 rfl ?_
  refine lv_topi (fun x_2 _ => ?_)
  refine st_b hx hb hK hP hD hS 1 rfl (by unfold vp_in; decide) dX8_put_31 (fun f_3 H locs hP hD hS => ?_)
  have hP : va_P D vwCl [(a 1, .inr (8, [.ref (a 17), .int 8])), (a 17, .inl (cB, 220, .inl f_3))] H := hP
  have hD : va_D A [(a 1, .inr (8, [.ref (a 17), .int 8])), (a 17, .inl (cB, 220, .inl f_3))] := hD
  refine lv_aload_n hx hb dX8_put_32 rfl (lv_at hl 1 rfl) ?_
  refine lv_dup hx hb dX8_put_33 rfl ?_
  refine va_get (D := D) (ci := 8) (v := .int 8) (C := RX8) (T := TX8) (N := 2) hx hb hts inT_X8 hown hK.1 hP 0 rfl rfl 1 (by decide) (hts _ k_151) (fun _ h9 => h9) rfl dX8_put_34 ?_
  refine lv_iconst (v := 1) hx hb dX8_put_37 (by decide) ?_
  refine lv_iadd hx hb dX8_put_38 ?_
  refine lv_topv (y := 9) (by decide) ?_
  refine va_put (D := D) (ci := 8) (v := .int 9) (ty := .int) (C := RX8) (T := TX8) (N := 2) hx hb hts inT_X8 tyX8 tyX8_ok nmX8 hown hK.1 hP hD hS 0 rfl rfl 1 (by decide) (hts _ k_151) (fun _ h9 => h9) rfl (by decide +kernel) rfl rfl (Nat.le_of_ble_eq_true rfl) dX8_put_39 (fun H locs hP hD hS => ?_)
  have hP : va_P D vwCl [(a 1, .inr (8, [.ref (a 17), .int 9])), (a 17, .inl (cB, 220, .inl f_3))] H := hP
  have hD : va_D A [(a 1, .inr (8, [.ref (a 17), .int 9])), (a 17, .inl (cB, 220, .inl f_3))] := hD
  refine lv_iinc (v := 16) (lv' := [(2, .int 16), (0, .ref (a 1)), (1, .int n1)]) hx hb dX8_put_42 hl (k := 0) rfl (by decide) (by decide) rfl (fun ls hl => ?_)
  refine lv_goto (tgt := 3) hx hb dX8_put_45 (by decide) ?_
  refine lv_iload_n hx hb dX8_put_3 rfl (lv_at hl 0 rfl) ?_
  refine lv_if_lt (tgt := 48) hx hb dX8_put_4 (by decide) (fun c => absurd c (by decide)) (fun _ => ?_)
  refine lv_aload_n hx hb dX8_put_7 rfl (lv_at hl 1 rfl) ?_
  refine va_get (D := D) (ci := 8) (v := .int 9) (C := RX8) (T := TX8) (N := 2) hx hb hts inT_X8 hown hK.1 hP 0 rfl rfl 1 (by decide) (hts _ k_151) (fun _ h9 => h9) rfl dX8_put_8 ?_
  refine lv_aload_n hx hb dX8_put_11 rfl (lv_at hl 1 rfl) ?_
  refine va_get (D := D) (ci := 8) (v := .ref (a 17)) (C := RX8) (T := TX8) (N := 2) hx hb hts inT_X8 hown hK.1 hP 0 rfl rfl 0 (by decide) (hts _ k_150) (fun _ h9 => h9) rfl dX8_put_12 ?_
  refine ln_x (v := 220) hx hb hK hP 1 1 rfl rfl (show Int32.ofNat 220 = 220 from by decide) dX8_put_15 ?_
  refine lv_icmp_ge (tgt := 48) hx hb dX8_put_16 (by decide) (fun c => absurd c (by decide)) (fun _ => ?_)
  refine lv_aload_n hx hb dX8_put_19 rfl (lv_at hl 1 rfl) ?_
  refine va_get (D := D) (ci := 8) (v := .ref (a 17)) (C := RX8) (T := TX8) (N := 2) hx hb hts inT_X8 hown hK.1 hP 0 rfl rfl 0 (by decide) (hts _ k_150) (fun _ h9 => h9) rfl dX8_put_20 ?_
  refine lv_aload_n hx hb dX8_put_23 rfl (lv_at hl 1 rfl) ?_
  refine va_get (D := D) (ci := 8) (v := .int 9) (C := RX8) (T := TX8) (N := 2) hx hb hts inT_X8 hown hK.1 hP 0 rfl rfl 1 (by decide) (hts _ k_151) (fun _ h9 => h9) rfl dX8_put_24 ?_
  refine lv_iload_n hx hb dX8_put_27 rfl (lv_at hl 2 rfl) ?_
  refine lv_iload_n hx hb dX8_put_28 rfl (lv_at hl 0 rfl) ?_
  refine lv_iushr hx hb dX8_put_29 rfl ?_
  refine lv_topi (fun x_4 _ => ?_)
  refine lv_i2b hx hb dX8_put_30 rfl ?_
  refine lv_topi (fun x_5 _ => ?_)
  refine st_b hx hb hK hP hD hS 1 rfl (by unfold vp_in; decide) dX8_put_31 (fun f_6 H locs hP hD hS => ?_)
  have hP : va_P D vwCl [(a 1, .inr (8, [.ref (a 17), .int 9])), (a 17, .inl (cB, 220, .inl f_6))] H := hP
  have hD : va_D A [(a 1, .inr (8, [.ref (a 17), .int 9])), (a 17, .inl (cB, 220, .inl f_6))] := hD
  refine lv_aload_n hx hb dX8_put_32 rfl (lv_at hl 1 rfl) ?_
  refine lv_dup hx hb dX8_put_33 rfl ?_
  refine va_get (D := D) (ci := 8) (v := .int 9) (C := RX8) (T := TX8) (N := 2) hx hb hts inT_X8 hown hK.1 hP 0 rfl rfl 1 (by decide) (hts _ k_151) (fun _ h9 => h9) rfl dX8_put_34 ?_
  refine lv_iconst (v := 1) hx hb dX8_put_37 (by decide) ?_
  refine lv_iadd hx hb dX8_put_38 ?_
  refine lv_topv (y := 10) (by decide) ?_
  refine va_put (D := D) (ci := 8) (v := .int 10) (ty := .int) (C := RX8) (T := TX8) (N := 2) hx hb hts inT_X8 tyX8 tyX8_ok nmX8 hown hK.1 hP hD hS 0 rfl rfl 1 (by decide) (hts _ k_151) (fun _ h9 => h9) rfl (by decide +kernel) rfl rfl (Nat.le_of_ble_eq_true rfl) dX8_put_39 (fun H locs hP hD hS => ?_)
  have hP : va_P D vwCl [(a 1, .inr (8, [.ref (a 17), .int 10])), (a 17, .inl (cB, 220, .inl f_6))] H := hP
  have hD : va_D A [(a 1, .inr (8, [.ref (a 17), .int 10])), (a 17, .inl (cB, 220, .inl f_6))] := hD
  refine lv_iinc (v := 8) (lv' := [(2, .int 8), (0, .ref (a 1)), (1, .int n1)]) hx hb dX8_put_42 hl (k := 0) rfl (by decide) (by decide) rfl (fun ls hl => ?_)
  refine lv_goto (tgt := 3) hx hb dX8_put_45 (by decide) ?_
  refine lv_iload_n hx hb dX8_put_3 rfl (lv_at hl 0 rfl) ?_
  refine lv_if_lt (tgt := 48) hx hb dX8_put_4 (by decide) (fun c => absurd c (by decide)) (fun _ => ?_)
  refine lv_aload_n hx hb dX8_put_7 rfl (lv_at hl 1 rfl) ?_
  refine va_get (D := D) (ci := 8) (v := .int 10) (C := RX8) (T := TX8) (N := 2) hx hb hts inT_X8 hown hK.1 hP 0 rfl rfl 1 (by decide) (hts _ k_151) (fun _ h9 => h9) rfl dX8_put_8 ?_
  refine lv_aload_n hx hb dX8_put_11 rfl (lv_at hl 1 rfl) ?_
  refine va_get (D := D) (ci := 8) (v := .ref (a 17)) (C := RX8) (T := TX8) (N := 2) hx hb hts inT_X8 hown hK.1 hP 0 rfl rfl 0 (by decide) (hts _ k_150) (fun _ h9 => h9) rfl dX8_put_12 ?_
  refine ln_x (v := 220) hx hb hK hP 1 1 rfl rfl (show Int32.ofNat 220 = 220 from by decide) dX8_put_15 ?_
  refine lv_icmp_ge (tgt := 48) hx hb dX8_put_16 (by decide) (fun c => absurd c (by decide)) (fun _ => ?_)
  refine lv_aload_n hx hb dX8_put_19 rfl (lv_at hl 1 rfl) ?_
  refine va_get (D := D) (ci := 8) (v := .ref (a 17)) (C := RX8) (T := TX8) (N := 2) hx hb hts inT_X8 hown hK.1 hP 0 rfl rfl 0 (by decide) (hts _ k_150) (fun _ h9 => h9) rfl dX8_put_20 ?_
  refine lv_aload_n hx hb dX8_put_23 rfl (lv_at hl 1 rfl) ?_
  refine va_get (D := D) (ci := 8) (v := .int 10) (C := RX8) (T := TX8) (N := 2) hx hb hts inT_X8 hown hK.1 hP 0 rfl rfl 1 (by decide) (hts _ k_151) (fun _ h9 => h9) rfl dX8_put_24 ?_
  refine lv_iload_n hx hb dX8_put_27 rfl (lv_at hl 2 rfl) ?_
  refine lv_iload_n hx hb dX8_put_28 rfl (lv_at hl 0 rfl) ?_
  refine lv_iushr hx hb dX8_put_29 rfl ?_
  refine lv_topi (fun x_7 _ => ?_)
  refine lv_i2b hx hb dX8_put_30 rfl ?_
  refine lv_topi (fun x_8 _ => ?_)
  refine st_b hx hb hK hP hD hS 1 rfl (by unfold vp_in; decide) dX8_put_31 (fun f_9 H locs hP hD hS => ?_)
  have hP : va_P D vwCl [(a 1, .inr (8, [.ref (a 17), .int 10])), (a 17, .inl (cB, 220, .inl f_9))] H := hP
  have hD : va_D A [(a 1, .inr (8, [.ref (a 17), .int 10])), (a 17, .inl (cB, 220, .inl f_9))] := hD
  refine lv_aload_n hx hb dX8_put_32 rfl (lv_at hl 1 rfl) ?_
  refine lv_dup hx hb dX8_put_33 rfl ?_
  refine va_get (D := D) (ci := 8) (v := .int 10) (C := RX8) (T := TX8) (N := 2) hx hb hts inT_X8 hown hK.1 hP 0 rfl rfl 1 (by decide) (hts _ k_151) (fun _ h9 => h9) rfl dX8_put_34 ?_
  refine lv_iconst (v := 1) hx hb dX8_put_37 (by decide) ?_
  refine lv_iadd hx hb dX8_put_38 ?_
  refine lv_topv (y := 11) (by decide) ?_
  refine va_put (D := D) (ci := 8) (v := .int 11) (ty := .int) (C := RX8) (T := TX8) (N := 2) hx hb hts inT_X8 tyX8 tyX8_ok nmX8 hown hK.1 hP hD hS 0 rfl rfl 1 (by decide) (hts _ k_151) (fun _ h9 => h9) rfl (by decide +kernel) rfl rfl (Nat.le_of_ble_eq_true rfl) dX8_put_39 (fun H locs hP hD hS => ?_)
  have hP : va_P D vwCl [(a 1, .inr (8, [.ref (a 17), .int 11])), (a 17, .inl (cB, 220, .inl f_9))] H := hP
  have hD : va_D A [(a 1, .inr (8, [.ref (a 17), .int 11])), (a 17, .inl (cB, 220, .inl f_9))] := hD
  refine lv_iinc (v := 0) (lv' := [(2, .int 0), (0, .ref (a 1)), (1, .int n1)]) hx hb dX8_put_42 hl (k := 0) rfl (by decide) (by decide) rfl (fun ls hl => ?_)
  refine lv_goto (tgt := 3) hx hb dX8_put_45 (by decide) ?_
  refine lv_iload_n hx hb dX8_put_3 rfl (lv_at hl 0 rfl) ?_
  refine lv_if_lt (tgt := 48) hx hb dX8_put_4 (by decide) (fun c => absurd c (by decide)) (fun _ => ?_)
  refine lv_aload_n hx hb dX8_put_7 rfl (lv_at hl 1 rfl) ?_
  refine va_get (D := D) (ci := 8) (v := .int 11) (C := RX8) (T := TX8) (N := 2) hx hb hts inT_X8 hown hK.1 hP 0 rfl rfl 1 (by decide) (hts _ k_151) (fun _ h9 => h9) rfl dX8_put_8 ?_
  refine lv_aload_n hx hb dX8_put_11 rfl (lv_at hl 1 rfl) ?_
  refine va_get (D := D) (ci := 8) (v := .ref (a 17)) (C := RX8) (T := TX8) (N := 2) hx hb hts inT_X8 hown hK.1 hP 0 rfl rfl 0 (by decide) (hts _ k_150) (fun _ h9 => h9) rfl dX8_put_12 ?_
  refine ln_x (v := 220) hx hb hK hP 1 1 rfl rfl (show Int32.ofNat 220 = 220 from by decide) dX8_put_15 ?_
  refine lv_icmp_ge (tgt := 48) hx hb dX8_put_16 (by decide) (fun c => absurd c (by decide)) (fun _ => ?_)
  refine lv_aload_n hx hb dX8_put_19 rfl (lv_at hl 1 rfl) ?_
  refine va_get (D := D) (ci := 8) (v := .ref (a 17)) (C := RX8) (T := TX8) (N := 2) hx hb hts inT_X8 hown hK.1 hP 0 rfl rfl 0 (by decide) (hts _ k_150) (fun _ h9 => h9) rfl dX8_put_20 ?_
  refine lv_aload_n hx hb dX8_put_23 rfl (lv_at hl 1 rfl) ?_
  refine va_get (D := D) (ci := 8) (v := .int 11) (C := RX8) (T := TX8) (N := 2) hx hb hts inT_X8 hown hK.1 hP 0 rfl rfl 1 (by decide) (hts _ k_151) (fun _ h9 => h9) rfl dX8_put_24 ?_
  refine lv_iload_n hx hb dX8_put_27 rfl (lv_at hl 2 rfl) ?_
  refine lv_iload_n hx hb dX8_put_28 rfl (lv_at hl 0 rfl) ?_
  refine lv_iushr hx hb dX8_put_29 rfl ?_
  refine lv_topi (fun x_10 _ => ?_)
  refine lv_i2b hx hb dX8_put_30 rfl ?_
  refine lv_topi (fun x_11 _ => ?_)
  refine st_b hx hb hK hP hD hS 1 rfl (by unfold vp_in; decide) dX8_put_31 (fun f_12 H locs hP hD hS => ?_)
  have hP : va_P D vwCl [(a 1, .inr (8, [.ref (a 17), .int 11])), (a 17, .inl (cB, 220, .inl f_12))] H := hP
  have hD : va_D A [(a 1, .inr (8, [.ref (a 17), .int 11])), (a 17, .inl (cB, 220, .inl f_12))] := hD
  refine lv_aload_n hx hb dX8_put_32 rfl (lv_at hl 1 rfl) ?_
  refine lv_dup hx hb dX8_put_33 rfl ?_
  refine va_get (D := D) (ci := 8) (v := .int 11) (C := RX8) (T := TX8) (N := 2) hx hb hts inT_X8 hown hK.1 hP 0 rfl rfl 1 (by decide) (hts _ k_151) (fun _ h9 => h9) rfl dX8_put_34 ?_
  refine lv_iconst (v := 1) hx hb dX8_put_37 (by decide) ?_
  refine lv_iadd hx hb dX8_put_38 ?_
  refine lv_topv (y := 12) (by decide) ?_
  refine va_put (D := D) (ci := 8) (v := .int 12) (ty := .int) (C := RX8) (T := TX8) (N := 2) hx hb hts inT_X8 tyX8 tyX8_ok nmX8 hown hK.1 hP hD hS 0 rfl rfl 1 (by decide) (hts _ k_151) (fun _ h9 => h9) rfl (by decide +kernel) rfl rfl (Nat.le_of_ble_eq_true rfl) dX8_put_39 (fun H locs hP hD hS => ?_)
  have hP : va_P D vwCl [(a 1, .inr (8, [.ref (a 17), .int 12])), (a 17, .inl (cB, 220, .inl f_12))] H := hP
  have hD : va_D A [(a 1, .inr (8, [.ref (a 17), .int 12])), (a 17, .inl (cB, 220, .inl f_12))] := hD
  refine lv_iinc (v := (-8)) (lv' := [(2, .int (-8)), (0, .ref (a 1)), (1, .int n1)]) hx hb dX8_put_42 hl (k := 0) rfl (by decide) (by decide) rfl (fun ls hl => ?_)
  refine lv_goto (tgt := 3) hx hb dX8_put_45 (by decide) ?_
  refine lv_iload_n hx hb dX8_put_3 rfl (lv_at hl 0 rfl) ?_
  refine lv_if_lt (tgt := 48) hx hb dX8_put_4 (by decide) (fun _ => ?_) (fun c => absurd c (by decide))
  exact W.vret hx hb hr (fun t ht hW => ⟨⟨f_12, rfl, trivial, ⟨by rw [ht]; exact hP, hD⟩⟩, hS.F ht⟩) hS.2.2 dX8_put_48 hlocks

set_option maxHeartbeats 4000000 in
set_option maxRecDepth 100000 in
theorem c_X8_put_12 (l : Launch) (D : va_G) (cI cB cZ cJ : ClassId) (tx : List (ClassId × FieldType)) (a : Nat → Nat) (f : Nat → Int32) (n1 : Int32) : WrV l D cI cB cZ cJ tx yX8_put cX8_put 3 none 0 0 0 [.ref (a 1), .int n1] [(a 1, .inr (8, [.ref (a 17), .int 12])), (a 17, .inl (cB, 220, .inl f))] (fun (_ : Nat → Int32) => True) (fun g => [(a 1, .inr (8, [.ref (a 17), .int 16])), (a 17, .inl (cB, 220, .inl g))]) := by
  refine wrv_of2 (by decide) (Nat.le_of_ble_eq_true rfl) ?_
  intro p e s m below meth c A ls H locs hC hK hP hD hA hS hl
  obtain ⟨hx, hb, hr, hml, hown, hts, hlocks, hin⟩ := hC
  have hown : s.vm.findClass RX8 = some m.cls := hown
  have hl : lv_has ls 3 [(0, .ref (a 1)), (1, .int n1)] := hl
  refine lv_bipush (v := 24) hx hb dX8_put_0 (by decide) ?_
  refine lv_istore_n (lv' := [(2, .int 24), (0, .ref (a 1)), (1, .int n1)]) hx hb dX8_put_2 rfl hl (by decide) rfl (fun ls hl => ?_)
  refine lv_iload_n hx hb dX8_put_3 rfl (lv_at hl 0 rfl) ?_
  refine lv_if_lt (tgt := 48) hx hb dX8_put_4 (by decide) (fun c => absurd c (by decide)) (fun _ => ?_)
  refine lv_aload_n hx hb dX8_put_7 rfl (lv_at hl 1 rfl) ?_
  refine va_get (D := D) (ci := 8) (v := .int 12) (C := RX8) (T := TX8) (N := 2) hx hb hts inT_X8 hown hK.1 hP 0 rfl rfl 1 (by decide) (hts _ k_151) (fun _ h9 => h9) rfl dX8_put_8 ?_
  refine lv_aload_n hx hb dX8_put_11 rfl (lv_at hl 1 rfl) ?_
  refine va_get (D := D) (ci := 8) (v := .ref (a 17)) (C := RX8) (T := TX8) (N := 2) hx hb hts inT_X8 hown hK.1 hP 0 rfl rfl 0 (by decide) (hts _ k_150) (fun _ h9 => h9) rfl dX8_put_12 ?_
  refine ln_x (v := 220) hx hb hK hP 1 1 rfl rfl (show Int32.ofNat 220 = 220 from by decide) dX8_put_15 ?_
  refine lv_icmp_ge (tgt := 48) hx hb dX8_put_16 (by decide) (fun c => absurd c (by decide)) (fun _ => ?_)
  refine lv_aload_n hx hb dX8_put_19 rfl (lv_at hl 1 rfl) ?_
  refine va_get (D := D) (ci := 8) (v := .ref (a 17)) (C := RX8) (T := TX8) (N := 2) hx hb hts inT_X8 hown hK.1 hP 0 rfl rfl 0 (by decide) (hts _ k_150) (fun _ h9 => h9) rfl dX8_put_20 ?_
  refine lv_aload_n hx hb dX8_put_23 rfl (lv_at hl 1 rfl) ?_
  refine va_get (D := D) (ci := 8) (v := .int 12) (C := RX8) (T := TX8) (N := 2) hx hb hts inT_X8 hown hK.1 hP 0 rfl rfl 1 (by decide) (hts _ k_151) (fun _ h9 => h9) rfl dX8_put_24 ?_
  refine lv_iload_n hx hb dX8_put_27 rfl (lv_at hl 2 rfl) ?_
  refine lv_iload_n hx hb dX8_put_28 rfl (lv_at hl 0 rfl) ?_
  refine lv_iushr hx hb dX8_put_29 rfl ?_
  refine lv_topi (fun x_1 _ => ?_)
  refine lv_i2b hx hb dX8_put_30 rfl ?_
  refine lv_topi (fun x_2 _ => ?_)
  refine st_b hx hb hK hP hD hS 1 rfl (by unfold vp_in; decide) dX8_put_31 (fun f_3 H locs hP hD hS => ?_)
  have hP : va_P D vwCl [(a 1, .inr (8, [.ref (a 17), .int 12])), (a 17, .inl (cB, 220, .inl f_3))] H := hP
  have hD : va_D A [(a 1, .inr (8, [.ref (a 17), .int 12])), (a 17, .inl (cB, 220, .inl f_3))] := hD
  refine lv_aload_n hx hb dX8_put_32 rfl (lv_at hl 1 rfl) ?_
  refine lv_dup hx hb dX8_put_33 rfl ?_
  refine va_get (D := D) (ci := 8) (v := .int 12) (C := RX8) (T := TX8) (N := 2) hx hb hts inT_X8 hown hK.1 hP 0 rfl rfl 1 (by decide) (hts _ k_151) (fun _ h9 => h9) rfl dX8_put_34 ?_
  refine lv_iconst (v := 1) hx hb dX8_put_37 (by decide) ?_
  refine lv_iadd hx hb dX8_put_38 ?_
  refine lv_topv (y := 13) (by decide) ?_
  refine va_put (D := D) (ci := 8) (v := .int 13) (ty := .int) (C := RX8) (T := TX8) (N := 2) hx hb hts inT_X8 tyX8 tyX8_ok nmX8 hown hK.1 hP hD hS 0 rfl rfl 1 (by decide) (hts _ k_151) (fun _ h9 => h9) rfl (by decide +kernel) rfl rfl (Nat.le_of_ble_eq_true rfl) dX8_put_39 (fun H locs hP hD hS => ?_)
  have hP : va_P D vwCl [(a 1, .inr (8, [.ref (a 17), .int 13])), (a 17, .inl (cB, 220, .inl f_3))] H := hP
  have hD : va_D A [(a 1, .inr (8, [.ref (a 17), .int 13])), (a 17, .inl (cB, 220, .inl f_3))] := hD
  refine lv_iinc (v := 16) (lv' := [(2, .int 16), (0, .ref (a 1)), (1, .int n1)]) hx hb dX8_put_42 hl (k := 0) rfl (by decide) (by decide) rfl (fun ls hl => ?_)
  refine lv_goto (tgt := 3) hx hb dX8_put_45 (by decide) ?_
  refine lv_iload_n hx hb dX8_put_3 rfl (lv_at hl 0 rfl) ?_
  refine lv_if_lt (tgt := 48) hx hb dX8_put_4 (by decide) (fun c => absurd c (by decide)) (fun _ => ?_)
  refine lv_aload_n hx hb dX8_put_7 rfl (lv_at hl 1 rfl) ?_
  refine va_get (D := D) (ci := 8) (v := .int 13) (C := RX8) (T := TX8) (N := 2) hx hb hts inT_X8 hown hK.1 hP 0 rfl rfl 1 (by decide) (hts _ k_151) (fun _ h9 => h9) rfl dX8_put_8 ?_
  refine lv_aload_n hx hb dX8_put_11 rfl (lv_at hl 1 rfl) ?_
  refine va_get (D := D) (ci := 8) (v := .ref (a 17)) (C := RX8) (T := TX8) (N := 2) hx hb hts inT_X8 hown hK.1 hP 0 rfl rfl 0 (by decide) (hts _ k_150) (fun _ h9 => h9) rfl dX8_put_12 ?_
  refine ln_x (v := 220) hx hb hK hP 1 1 rfl rfl (show Int32.ofNat 220 = 220 from by decide) dX8_put_15 ?_
  refine lv_icmp_ge (tgt := 48) hx hb dX8_put_16 (by decide) (fun c => absurd c (by decide)) (fun _ => ?_)
  refine lv_aload_n hx hb dX8_put_19 rfl (lv_at hl 1 rfl) ?_
  refine va_get (D := D) (ci := 8) (v := .ref (a 17)) (C := RX8) (T := TX8) (N := 2) hx hb hts inT_X8 hown hK.1 hP 0 rfl rfl 0 (by decide) (hts _ k_150) (fun _ h9 => h9) rfl dX8_put_20 ?_
  refine lv_aload_n hx hb dX8_put_23 rfl (lv_at hl 1 rfl) ?_
  refine va_get (D := D) (ci := 8) (v := .int 13) (C := RX8) (T := TX8) (N := 2) hx hb hts inT_X8 hown hK.1 hP 0 rfl rfl 1 (by decide) (hts _ k_151) (fun _ h9 => h9) rfl dX8_put_24 ?_
  refine lv_iload_n hx hb dX8_put_27 rfl (lv_at hl 2 rfl) ?_
  refine lv_iload_n hx hb dX8_put_28 rfl (lv_at hl 0 rfl) ?_
  refine lv_iushr hx hb dX8_put_29 rfl ?_
  refine lv_topi (fun x_4 _ => ?_)
  refine lv_i2b hx hb dX8_put_30 rfl ?_
  refine lv_topi (fun x_5 _ => ?_)
  refine st_b hx hb hK hP hD hS 1 rfl (by unfold vp_in; decide) dX8_put_31 (fun f_6 H locs hP hD hS => ?_)
  have hP : va_P D vwCl [(a 1, .inr (8, [.ref (a 17), .int 13])), (a 17, .inl (cB, 220, .inl f_6))] H := hP
  have hD : va_D A [(a 1, .inr (8, [.ref (a 17), .int 13])), (a 17, .inl (cB, 220, .inl f_6))] := hD
  refine lv_aload_n hx hb dX8_put_32 rfl (lv_at hl 1 rfl) ?_
  refine lv_dup hx hb dX8_put_33 rfl ?_
  refine va_get (D := D) (ci := 8) (v := .int 13) (C := RX8) (T := TX8) (N := 2) hx hb hts inT_X8 hown hK.1 hP 0 rfl rfl 1 (by decide) (hts _ k_151) (fun _ h9 => h9) rfl dX8_put_34 ?_
  refine lv_iconst (v := 1) hx hb dX8_put_37 (by decide) ?_
  refine lv_iadd hx hb dX8_put_38 ?_
  refine lv_topv (y := 14) (by decide) ?_
  refine va_put (D := D) (ci := 8) (v := .int 14) (ty := .int) (C := RX8) (T := TX8) (N := 2) hx hb hts inT_X8 tyX8 tyX8_ok nmX8 hown hK.1 hP hD hS 0 rfl rfl 1 (by decide) (hts _ k_151) (fun _ h9 => h9) rfl (by decide +kernel) rfl rfl (Nat.le_of_ble_eq_true rfl) dX8_put_39 (fun H locs hP hD hS => ?_)
  have hP : va_P D vwCl [(a 1, .inr (8, [.ref (a 17), .int 14])), (a 17, .inl (cB, 220, .inl f_6))] H := hP
  have hD : va_D A [(a 1, .inr (8, [.ref (a 17), .int 14])), (a 17, .inl (cB, 220, .inl f_6))] := hD
  refine lv_iinc (v := 8) (lv' := [(2, .int 8), (0, .ref (a 1)), (1, .int n1)]) hx hb dX8_put_42 hl (k := 0) rfl (by decide) (by decide) rfl (fun ls hl => ?_)
  refine lv_goto (tgt := 3) hx hb dX8_put_45 (by decide) ?_
  refine lv_iload_n hx hb dX8_put_3 rfl (lv_at hl 0 rfl) ?_
  refine lv_if_lt (tgt := 48) hx hb dX8_put_4 (by decide) (fun c => absurd c (by decide)) (fun _ => ?_)
  refine lv_aload_n hx hb dX8_put_7 rfl (lv_at hl 1 rfl) ?_
  refine va_get (D := D) (ci := 8) (v := .int 14) (C := RX8) (T := TX8) (N := 2) hx hb hts inT_X8 hown hK.1 hP 0 rfl rfl 1 (by decide) (hts _ k_151) (fun _ h9 => h9) rfl dX8_put_8 ?_
  refine lv_aload_n hx hb dX8_put_11 rfl (lv_at hl 1 rfl) ?_
  refine va_get (D := D) (ci := 8) (v := .ref (a 17)) (C := RX8) (T := TX8) (N := 2) hx hb hts inT_X8 hown hK.1 hP 0 rfl rfl 0 (by decide) (hts _ k_150) (fun _ h9 => h9) rfl dX8_put_12 ?_
  refine ln_x (v := 220) hx hb hK hP 1 1 rfl rfl (show Int32.ofNat 220 = 220 from by decide) dX8_put_15 ?_
  refine lv_icmp_ge (tgt := 48) hx hb dX8_put_16 (by decide) (fun c => absurd c (by decide)) (fun _ => ?_)
  refine lv_aload_n hx hb dX8_put_19 rfl (lv_at hl 1 rfl) ?_
  refine va_get (D := D) (ci := 8) (v := .ref (a 17)) (C := RX8) (T := TX8) (N := 2) hx hb hts inT_X8 hown hK.1 hP 0 rfl rfl 0 (by decide) (hts _ k_150) (fun _ h9 => h9) rfl dX8_put_20 ?_
  refine lv_aload_n hx hb dX8_put_23 rfl (lv_at hl 1 rfl) ?_
  refine va_get (D := D) (ci := 8) (v := .int 14) (C := RX8) (T := TX8) (N := 2) hx hb hts inT_X8 hown hK.1 hP 0 rfl rfl 1 (by decide) (hts _ k_151) (fun _ h9 => h9) rfl dX8_put_24 ?_
  refine lv_iload_n hx hb dX8_put_27 rfl (lv_at hl 2 rfl) ?_
  refine lv_iload_n hx hb dX8_put_28 rfl (lv_at hl 0 rfl) ?_
  refine lv_iushr hx hb dX8_put_29 rfl ?_
  refine lv_topi (fun x_7 _ => ?_)
  refine lv_i2b hx hb dX8_put_30 rfl ?_
  refine lv_topi (fun x_8 _ => ?_)
  refine st_b hx hb hK hP hD hS 1 rfl (by unfold vp_in; decide) dX8_put_31 (fun f_9 H locs hP hD hS => ?_)
  have hP : va_P D vwCl [(a 1, .inr (8, [.ref (a 17), .int 14])), (a 17, .inl (cB, 220, .inl f_9))] H := hP
  have hD : va_D A [(a 1, .inr (8, [.ref (a 17), .int 14])), (a 17, .inl (cB, 220, .inl f_9))] := hD
  refine lv_aload_n hx hb dX8_put_32 rfl (lv_at hl 1 rfl) ?_
  refine lv_dup hx hb dX8_put_33 rfl ?_
  refine va_get (D := D) (ci := 8) (v := .int 14) (C := RX8) (T := TX8) (N := 2) hx hb hts inT_X8 hown hK.1 hP 0 rfl rfl 1 (by decide) (hts _ k_151) (fun _ h9 => h9) rfl dX8_put_34 ?_
  refine lv_iconst (v := 1) hx hb dX8_put_37 (by decide) ?_
  refine lv_iadd hx hb dX8_put_38 ?_
  refine lv_topv (y := 15) (by decide) ?_
  refine va_put (D := D) (ci := 8) (v := .int 15) (ty := .int) (C := RX8) (T := TX8) (N := 2) hx hb hts inT_X8 tyX8 tyX8_ok nmX8 hown hK.1 hP hD hS 0 rfl rfl 1 (by decide) (hts _ k_151) (fun _ h9 => h9) rfl (by decide +kernel) rfl rfl (Nat.le_of_ble_eq_true rfl) dX8_put_39 (fun H locs hP hD hS => ?_)
  have hP : va_P D vwCl [(a 1, .inr (8, [.ref (a 17), .int 15])), (a 17, .inl (cB, 220, .inl f_9))] H := hP
  have hD : va_D A [(a 1, .inr (8, [.ref (a 17), .int 15])), (a 17, .inl (cB, 220, .inl f_9))] := hD
  refine lv_iinc (v := 0) (lv' := [(2, .int 0), (0, .ref (a 1)), (1, .int n1)]) hx hb dX8_put_42 hl (k := 0) rfl (by decide) (by decide) rfl (fun ls hl => ?_)
  refine lv_goto (tgt := 3) hx hb dX8_put_45 (by decide) ?_
  refine lv_iload_n hx hb dX8_put_3 rfl (lv_at hl 0 rfl) ?_
  refine lv_if_lt (tgt := 48) hx hb dX8_put_4 (by decide) (fun c => absurd c (by decide)) (fun _ => ?_)
  refine lv_aload_n hx hb dX8_put_7 rfl (lv_at hl 1 rfl) ?_
  refine va_get (D := D) (ci := 8) (v := .int 15) (C := RX8) (T := TX8) (N := 2) hx hb hts inT_X8 hown hK.1 hP 0 rfl rfl 1 (by decide) (hts _ k_151) (fun _ h9 => h9) rfl dX8_put_8 ?_
  refine lv_aload_n hx hb dX8_put_11 rfl (lv_at hl 1 rfl) ?_
  refine va_get (D := D) (ci := 8) (v := .ref (a 17)) (C := RX8) (T := TX8) (N := 2) hx hb hts inT_X8 hown hK.1 hP 0 rfl rfl 0 (by decide) (hts _ k_150) (fun _ h9 => h9) rfl dX8_put_12 ?_
  refine ln_x (v := 220) hx hb hK hP 1 1 rfl rfl (show Int32.ofNat 220 = 220 from by decide) dX8_put_15 ?_
  refine lv_icmp_ge (tgt := 48) hx hb dX8_put_16 (by decide) (fun c => absurd c (by decide)) (fun _ => ?_)
  refine lv_aload_n hx hb dX8_put_19 rfl (lv_at hl 1 rfl) ?_
  refine va_get (D := D) (ci := 8) (v := .ref (a 17)) (C := RX8) (T := TX8) (N := 2) hx hb hts inT_X8 hown hK.1 hP 0 rfl rfl 0 (by decide) (hts _ k_150) (fun _ h9 => h9) rfl dX8_put_20 ?_
  refine lv_aload_n hx hb dX8_put_23 rfl (lv_at hl 1 rfl) ?_
  refine va_get (D := D) (ci := 8) (v := .int 15) (C := RX8) (T := TX8) (N := 2) hx hb hts inT_X8 hown hK.1 hP 0 rfl rfl 1 (by decide) (hts _ k_151) (fun _ h9 => h9) rfl dX8_put_24 ?_
  refine lv_iload_n hx hb dX8_put_27 rfl (lv_at hl 2 rfl) ?_
  refine lv_iload_n hx hb dX8_put_28 rfl (lv_at hl 0 rfl) ?_
  refine lv_iushr hx hb dX8_put_29 rfl ?_
  refine lv_topi (fun x_10 _ => ?_)
  refine lv_i2b hx hb dX8_put_30 rfl ?_
  refine lv_topi (fun x_11 _ => ?_)
  refine st_b hx hb hK hP hD hS 1 rfl (by unfold vp_in; decide) dX8_put_31 (fun f_12 H locs hP hD hS => ?_)
  have hP : va_P D vwCl [(a 1, .inr (8, [.ref (a 17), .int 15])), (a 17, .inl (cB, 220, .inl f_12))] H := hP
  have hD : va_D A [(a 1, .inr (8, [.ref (a 17), .int 15])), (a 17, .inl (cB, 220, .inl f_12))] := hD
  refine lv_aload_n hx hb dX8_put_32 rfl (lv_at hl 1 rfl) ?_
  refine lv_dup hx hb dX8_put_33 rfl ?_
  refine va_get (D := D) (ci := 8) (v := .int 15) (C := RX8) (T := TX8) (N := 2) hx hb hts inT_X8 hown hK.1 hP 0 rfl rfl 1 (by decide) (hts _ k_151) (fun _ h9 => h9) rfl dX8_put_34 ?_
  refine lv_iconst (v := 1) hx hb dX8_put_37 (by decide) ?_
  refine lv_iadd hx hb dX8_put_38 ?_
  refine lv_topv (y := 16) (by decide) ?_
  refine va_put (D := D) (ci := 8) (v := .int 16) (ty := .int) (C := RX8) (T := TX8) (N := 2) hx hb hts inT_X8 tyX8 tyX8_ok nmX8 hown hK.1 hP hD hS 0 rfl rfl 1 (by decide) (hts _ k_151) (fun _ h9 => h9) rfl (by decide +kernel) rfl rfl (Nat.le_of_ble_eq_true rfl) dX8_put_39 (fun H locs hP hD hS => ?_)
  have hP : va_P D vwCl [(a 1, .inr (8, [.ref (a 17), .int 16])), (a 17, .inl (cB, 220, .inl f_12))] H := hP
  have hD : va_D A [(a 1, .inr (8, [.ref (a 17), .int 16])), (a 17, .inl (cB, 220, .inl f_12))] := hD
  refine lv_iinc (v := (-8)) (lv' := [(2, .int (-8)), (0, .ref (a 1)), (1, .int n1)]) hx hb dX8_put_42 hl (k := 0) rfl (by decide) (by decide) rfl (fun ls hl => ?_)
  refine lv_goto (tgt := 3) hx hb dX8_put_45 (by decide) ?_
  refine lv_iload_n hx hb dX8_put_3 rfl (lv_at hl 0 rfl) ?_
  refine lv_if_lt (tgt := 48) hx hb dX8_put_4 (by decide) (fun _ => ?_) (fun c => absurd c (by decide))
  exact W.vret hx hb hr (fun t ht hW => ⟨⟨f_12, rfl, trivial, ⟨by rw [ht]; exact hP, hD⟩⟩, hS.F ht⟩) hS.2.2 dX8_put_48 hlocks

set_option maxHeartbeats 4000000 in
set_option maxRecDepth 100000 in
theorem c_X8_put_16 (l : Launch) (D : va_G) (cI cB cZ cJ : ClassId) (tx : List (ClassId × FieldType)) (a : Nat → Nat) (f : Nat → Int32) (n1 : Int32) : WrV l D cI cB cZ cJ tx yX8_put cX8_put 3 none 0 0 0 [.ref (a 1), .int n1] [(a 1, .inr (8, [.ref (a 17), .int 16])), (a 17, .inl (cB, 220, .inl f))] (fun (_ : Nat → Int32) => True) (fun g => [(a 1, .inr (8, [.ref (a 17), .int 20])), (a 17, .inl (cB, 220, .inl g))]) := by
  refine wrv_of2 (by decide) (Nat.le_of_ble_eq_true rfl) ?_
  intro p e s m below meth c A ls H locs hC hK hP hD hA hS hl
  obtain ⟨hx, hb, hr, hml, hown, hts, hlocks, hin⟩ := hC
  have hown : s.vm.findClass RX8 = some m.cls := hown
  have hl : lv_has ls 3 [(0, .ref (a 1)), (1, .int n1)] := hl
  refine lv_bipush (v := 24) hx hb dX8_put_0 (by decide) ?_
  refine lv_istore_n (lv' := [(2, .int 24), (0, .ref (a 1)), (1, .int n1)]) hx hb dX8_put_2 rfl hl (by decide) rfl (fun ls hl => ?_)
  refine lv_iload_n hx hb dX8_put_3 rfl (lv_at hl 0 rfl) ?_
  refine lv_if_lt (tgt := 48) hx hb dX8_put_4 (by decide) (fun c => absurd c (by decide)) (fun _ => ?_)
  refine lv_aload_n hx hb dX8_put_7 rfl (lv_at hl 1 rfl) ?_
  refine va_get (D := D) (ci := 8) (v := .int 16) (C := RX8) (T := TX8) (N := 2) hx hb hts inT_X8 hown hK.1 hP 0 rfl rfl 1 (by decide) (hts _ k_151) (fun _ h9 => h9) rfl dX8_put_8 ?_
  refine lv_aload_n hx hb dX8_put_11 rfl (lv_at hl 1 rfl) ?_
  refine va_get (D := D) (ci := 8) (v := .ref (a 17)) (C := RX8) (T := TX8) (N := 2) hx hb hts inT_X8 hown hK.1 hP 0 rfl rfl 0 (by decide) (hts _ k_150) (fun _ h9 => h9) rfl dX8_put_12 ?_
  refine ln_x (v := 220) hx hb hK hP 1 1 rfl rfl (show Int32.ofNat 220 = 220 from by decide) dX8_put_15 ?_
  refine lv_icmp_ge (tgt := 48) hx hb dX8_put_16 (by decide) (fun c => absurd c (by decide)) (fun _ => ?_)
  refine lv_aload_n hx hb dX8_put_19 rfl (lv_at hl 1 rfl) ?_
  refine va_get (D := D) (ci := 8) (v := .ref (a 17)) (C := RX8) (T := TX8) (N := 2) hx hb hts inT_X8 hown hK.1 hP 0 rfl rfl 0 (by decide) (hts _ k_150) (fun _ h9 => h9) rfl dX8_put_20 ?_
  refine lv_aload_n hx hb dX8_put_23 rfl (lv_at hl 1 rfl) ?_
  refine va_get (D := D) (ci := 8) (v := .int 16) (C := RX8) (T := TX8) (N := 2) hx hb hts inT_X8 hown hK.1 hP 0 rfl rfl 1 (by decide) (hts _ k_151) (fun _ h9 => h9) rfl dX8_put_24 ?_
  refine lv_iload_n hx hb dX8_put_27 rfl (lv_at hl 2 rfl) ?_
  refine lv_iload_n hx hb dX8_put_28 rfl (lv_at hl 0 rfl) ?_
  refine lv_iushr hx hb dX8_put_29 rfl ?_
  refine lv_topi (fun x_1 _ => ?_)
  refine lv_i2b hx hb dX8_put_30 rfl ?_
  refine lv_topi (fun x_2 _ => ?_)
  refine st_b hx hb hK hP hD hS 1 rfl (by unfold vp_in; decide) dX8_put_31 (fun f_3 H locs hP hD hS => ?_)
  have hP : va_P D vwCl [(a 1, .inr (8, [.ref (a 17), .int 16])), (a 17, .inl (cB, 220, .inl f_3))] H := hP
  have hD : va_D A [(a 1, .inr (8, [.ref (a 17), .int 16])), (a 17, .inl (cB, 220, .inl f_3))] := hD
  refine lv_aload_n hx hb dX8_put_32 rfl (lv_at hl 1 rfl) ?_
  refine lv_dup hx hb dX8_put_33 rfl ?_
  refine va_get (D := D) (ci := 8) (v := .int 16) (C := RX8) (T := TX8) (N := 2) hx hb hts inT_X8 hown hK.1 hP 0 rfl rfl 1 (by decide) (hts _ k_151) (fun _ h9 => h9) rfl dX8_put_34 ?_
  refine lv_iconst (v := 1) hx hb dX8_put_37 (by decide) ?_
  refine lv_iadd hx hb dX8_put_38 ?_
  refine lv_topv (y := 17) (by decide) ?_
  refine va_put (D := D) (ci := 8) (v := .int 17) (ty := .int) (C := RX8) (T := TX8) (N := 2) hx hb hts inT_X8 tyX8 tyX8_ok nmX8 hown hK.1 hP hD hS 0 rfl rfl 1 (by decide) (hts _ k_151) (fun _ h9 => h9) rfl (by decide +kernel) rfl rfl (Nat.le_of_ble_eq_true rfl) dX8_put_39 (fun H locs hP hD hS => ?_)
  have hP : va_P D vwCl [(a 1, .inr (8, [.ref (a 17), .int 17])), (a 17, .inl (cB, 220, .inl f_3))] H := hP
  have hD : va_D A [(a 1, .inr (8, [.ref (a 17), .int 17])), (a 17, .inl (cB, 220, .inl f_3))] := hD
  refine lv_iinc (v := 16) (lv' := [(2, .int 16), (0, .ref (a 1)), (1, .int n1)]) hx hb dX8_put_42 hl (k := 0) rfl (by decide) (by decide) rfl (fun ls hl => ?_)
  refine lv_goto (tgt := 3) hx hb dX8_put_45 (by decide) ?_
  refine lv_iload_n hx hb dX8_put_3 rfl (lv_at hl 0 rfl) ?_
  refine lv_if_lt (tgt := 48) hx hb dX8_put_4 (by decide) (fun c => absurd c (by decide)) (fun _ => ?_)
  refine lv_aload_n hx hb dX8_put_7 rfl (lv_at hl 1 rfl) ?_
  refine va_get (D := D) (ci := 8) (v := .int 17) (C := RX8) (T := TX8) (N := 2) hx hb hts inT_X8 hown hK.1 hP 0 rfl rfl 1 (by decide) (hts _ k_151) (fun _ h9 => h9) rfl dX8_put_8 ?_
  refine lv_aload_n hx hb dX8_put_11 rfl (lv_at hl 1 rfl) ?_
  refine va_get (D := D) (ci := 8) (v := .ref (a 17)) (C := RX8) (T := TX8) (N := 2) hx hb hts inT_X8 hown hK.1 hP 0 rfl rfl 0 (by decide) (hts _ k_150) (fun _ h9 => h9) rfl dX8_put_12 ?_
  refine ln_x (v := 220) hx hb hK hP 1 1 rfl rfl (show Int32.ofNat 220 = 220 from by decide) dX8_put_15 ?_
  refine lv_icmp_ge (tgt := 48) hx hb dX8_put_16 (by decide) (fun c => absurd c (by decide)) (fun _ => ?_)
  refine lv_aload_n hx hb dX8_put_19 rfl (lv_at hl 1 rfl) ?_
  refine va_get (D := D) (ci := 8) (v := .ref (a 17)) (C := RX8) (T := TX8) (N := 2) hx hb hts inT_X8 hown hK.1 hP 0 rfl rfl 0 (by decide) (hts _ k_150) (fun _ h9 => h9) rfl dX8_put_20 ?_
  refine lv_aload_n hx hb dX8_put_23 rfl (lv_at hl 1 rfl) ?_
  refine va_get (D := D) (ci := 8) (v := .int 17) (C := RX8) (T := TX8) (N := 2) hx hb hts inT_X8 hown hK.1 hP 0 rfl rfl 1 (by decide) (hts _ k_151) (fun _ h9 => h9) rfl dX8_put_24 ?_
  refine lv_iload_n hx hb dX8_put_27 rfl (lv_at hl 2 rfl) ?_
  refine lv_iload_n hx hb dX8_put_28 rfl (lv_at hl 0 rfl) ?_
  refine lv_iushr hx hb dX8_put_29 rfl ?_
  refine lv_topi (fun x_4 _ => ?_)
  refine lv_i2b hx hb dX8_put_30 rfl ?_
  refine lv_topi (fun x_5 _ => ?_)
  refine st_b hx hb hK hP hD hS 1 rfl (by unfold vp_in; decide) dX8_put_31 (fun f_6 H locs hP hD hS => ?_)
  have hP : va_P D vwCl [(a 1, .inr (8, [.ref (a 17), .int 17])), (a 17, .inl (cB, 220, .inl f_6))] H := hP
  have hD : va_D A [(a 1, .inr (8, [.ref (a 17), .int 17])), (a 17, .inl (cB, 220, .inl f_6))] := hD
  refine lv_aload_n hx hb dX8_put_32 rfl (lv_at hl 1 rfl) ?_
  refine lv_dup hx hb dX8_put_33 rfl ?_
  refine va_get (D := D) (ci := 8) (v := .int 17) (C := RX8) (T := TX8) (N := 2) hx hb hts inT_X8 hown hK.1 hP 0 rfl rfl 1 (by decide) (hts _ k_151) (fun _ h9 => h9) rfl dX8_put_34 ?_
  refine lv_iconst (v := 1) hx hb dX8_put_37 (by decide) ?_
  refine lv_iadd hx hb dX8_put_38 ?_
  refine lv_topv (y := 18) (by decide) ?_
  refine va_put (D := D) (ci := 8) (v := .int 18) (ty := .int) (C := RX8) (T := TX8) (N := 2) hx hb hts inT_X8 tyX8 tyX8_ok nmX8 hown hK.1 hP hD hS 0 rfl rfl 1 (by decide) (hts _ k_151) (fun _ h9 => h9) rfl (by decide +kernel) rfl rfl (Nat.le_of_ble_eq_true rfl) dX8_put_39 (fun H locs hP hD hS => ?_)
  have hP : va_P D vwCl [(a 1, .inr (8, [.ref (a 17), .int 18])), (a 17, .inl (cB, 220, .inl f_6))] H := hP
  have hD : va_D A [(a 1, .inr (8, [.ref (a 17), .int 18])), (a 17, .inl (cB, 220, .inl f_6))] := hD
  refine lv_iinc (v := 8) (lv' := [(2, .int 8), (0, .ref (a 1)), (1, .int n1)]) hx hb dX8_put_42 hl (k := 0) rfl (by decide) (by decide) rfl (fun ls hl => ?_)
  refine lv_goto (tgt := 3) hx hb dX8_put_45 (by decide) ?_
  refine lv_iload_n hx hb dX8_put_3 rfl (lv_at hl 0 rfl) ?_
  refine lv_if_lt (tgt := 48) hx hb dX8_put_4 (by decide) (fun c => absurd c (by decide)) (fun _ => ?_)
  refine lv_aload_n hx hb dX8_put_7 rfl (lv_at hl 1 rfl) ?_
  refine va_get (D := D) (ci := 8) (v := .int 18) (C := RX8) (T := TX8) (N := 2) hx hb hts inT_X8 hown hK.1 hP 0 rfl rfl 1 (by decide) (hts _ k_151) (fun _ h9 => h9) rfl dX8_put_8 ?_
  refine lv_aload_n hx hb dX8_put_11 rfl (lv_at hl 1 rfl) ?_
  refine va_get (D := D) (ci := 8) (v := .ref (a 17)) (C := RX8) (T := TX8) (N := 2) hx hb hts inT_X8 hown hK.1 hP 0 rfl rfl 0 (by decide) (hts _ k_150) (fun _ h9 => h9) rfl dX8_put_12 ?_
  refine ln_x (v := 220) hx hb hK hP 1 1 rfl rfl (show Int32.ofNat 220 = 220 from by decide) dX8_put_15 ?_
  refine lv_icmp_ge (tgt := 48) hx hb dX8_put_16 (by decide) (fun c => absurd c (by decide)) (fun _ => ?_)
  refine lv_aload_n hx hb dX8_put_19 rfl (lv_at hl 1 rfl) ?_
  refine va_get (D := D) (ci := 8) (v := .ref (a 17)) (C := RX8) (T := TX8) (N := 2) hx hb hts inT_X8 hown hK.1 hP 0 rfl rfl 0 (by decide) (hts _ k_150) (fun _ h9 => h9) rfl dX8_put_20 ?_
  refine lv_aload_n hx hb dX8_put_23 rfl (lv_at hl 1 rfl) ?_
  refine va_get (D := D) (ci := 8) (v := .int 18) (C := RX8) (T := TX8) (N := 2) hx hb hts inT_X8 hown hK.1 hP 0 rfl rfl 1 (by decide) (hts _ k_151) (fun _ h9 => h9) rfl dX8_put_24 ?_
  refine lv_iload_n hx hb dX8_put_27 rfl (lv_at hl 2 rfl) ?_
  refine lv_iload_n hx hb dX8_put_28 rfl (lv_at hl 0 rfl) ?_
  refine lv_iushr hx hb dX8_put_29 rfl ?_
  refine lv_topi (fun x_7 _ => ?_)
  refine lv_i2b hx hb dX8_put_30 rfl ?_
  refine lv_topi (fun x_8 _ => ?_)
  refine st_b hx hb hK hP hD hS 1 rfl (by unfold vp_in; decide) dX8_put_31 (fun f_9 H locs hP hD hS => ?_)
  have hP : va_P D vwCl [(a 1, .inr (8, [.ref (a 17), .int 18])), (a 17, .inl (cB, 220, .inl f_9))] H := hP
  have hD : va_D A [(a 1, .inr (8, [.ref (a 17), .int 18])), (a 17, .inl (cB, 220, .inl f_9))] := hD
  refine lv_aload_n hx hb dX8_put_32 rfl (lv_at hl 1 rfl) ?_
  refine lv_dup hx hb dX8_put_33 rfl ?_
  refine va_get (D := D) (ci := 8) (v := .int 18) (C := RX8) (T := TX8) (N := 2) hx hb hts inT_X8 hown hK.1 hP 0 rfl rfl 1 (by decide) (hts _ k_151) (fun _ h9 => h9) rfl dX8_put_34 ?_
  refine lv_iconst (v := 1) hx hb dX8_put_37 (by decide) ?_
  refine lv_iadd hx hb dX8_put_38 ?_
  refine lv_topv (y := 19) (by decide) ?_
  refine va_put (D := D) (ci := 8) (v := .int 19) (ty := .int) (C := RX8) (T := TX8) (N := 2) hx hb hts inT_X8 tyX8 tyX8_ok nmX8 hown hK.1 hP hD hS 0 rfl rfl 1 (by decide) (hts _ k_151) (fun _ h9 => h9) rfl (by decide +kernel) rfl rfl (Nat.le_of_ble_eq_true rfl) dX8_put_39 (fun H locs hP hD hS => ?_)
  have hP : va_P D vwCl [(a 1, .inr (8, [.ref (a 17), .int 19])), (a 17, .inl (cB, 220, .inl f_9))] H := hP
  have hD : va_D A [(a 1, .inr (8, [.ref (a 17), .int 19])), (a 17, .inl (cB, 220, .inl f_9))] := hD
  refine lv_iinc (v := 0) (lv' := [(2, .int 0), (0, .ref (a 1)), (1, .int n1)]) hx hb dX8_put_42 hl (k := 0) rfl (by decide) (by decide) rfl (fun ls hl => ?_)
  refine lv_goto (tgt := 3) hx hb dX8_put_45 (by decide) ?_
  refine lv_iload_n hx hb dX8_put_3 rfl (lv_at hl 0 rfl) ?_
  refine lv_if_lt (tgt := 48) hx hb dX8_put_4 (by decide) (fun c => absurd c (by decide)) (fun _ => ?_)
  refine lv_aload_n hx hb dX8_put_7 rfl (lv_at hl 1 rfl) ?_
  refine va_get (D := D) (ci := 8) (v := .int 19) (C := RX8) (T := TX8) (N := 2) hx hb hts inT_X8 hown hK.1 hP 0 rfl rfl 1 (by decide) (hts _ k_151) (fun _ h9 => h9) rfl dX8_put_8 ?_
  refine lv_aload_n hx hb dX8_put_11 rfl (lv_at hl 1 rfl) ?_
  refine va_get (D := D) (ci := 8) (v := .ref (a 17)) (C := RX8) (T := TX8) (N := 2) hx hb hts inT_X8 hown hK.1 hP 0 rfl rfl 0 (by decide) (hts _ k_150) (fun _ h9 => h9) rfl dX8_put_12 ?_
  refine ln_x (v := 220) hx hb hK hP 1 1 rfl rfl (show Int32.ofNat 220 = 220 from by decide) dX8_put_15 ?_
  refine lv_icmp_ge (tgt := 48) hx hb dX8_put_16 (by decide) (fun c => absurd c (by decide)) (fun _ => ?_)
  refine lv_aload_n hx hb dX8_put_19 rfl (lv_at hl 1 rfl) ?_
  refine va_get (D := D) (ci := 8) (v := .ref (a 17)) (C := RX8) (T := TX8) (N := 2) hx hb hts inT_X8 hown hK.1 hP 0 rfl rfl 0 (by decide) (hts _ k_150) (fun _ h9 => h9) rfl dX8_put_20 ?_
  refine lv_aload_n hx hb dX8_put_23 rfl (lv_at hl 1 rfl) ?_
  refine va_get (D := D) (ci := 8) (v := .int 19) (C := RX8) (T := TX8) (N := 2) hx hb hts inT_X8 hown hK.1 hP 0 rfl rfl 1 (by decide) (hts _ k_151) (fun _ h9 => h9) rfl dX8_put_24 ?_
  refine lv_iload_n hx hb dX8_put_27 rfl (lv_at hl 2 rfl) ?_
  refine lv_iload_n hx hb dX8_put_28 rfl (lv_at hl 0 rfl) ?_
  refine lv_iushr hx hb dX8_put_29 rfl ?_
  refine lv_topi (fun x_10 _ => ?_)
  refine lv_i2b hx hb dX8_put_30 rfl ?_
  refine lv_topi (fun x_11 _ => ?_)
  refine st_b hx hb hK hP hD hS 1 rfl (by unfold vp_in; decide) dX8_put_31 (fun f_12 H locs hP hD hS => ?_)
  have hP : va_P D vwCl [(a 1, .inr (8, [.ref (a 17), .int 19])), (a 17, .inl (cB, 220, .inl f_12))] H := hP
  have hD : va_D A [(a 1, .inr (8, [.ref (a 17), .int 19])), (a 17, .inl (cB, 220, .inl f_12))] := hD
  refine lv_aload_n hx hb dX8_put_32 rfl (lv_at hl 1 rfl) ?_
  refine lv_dup hx hb dX8_put_33 rfl ?_
  refine va_get (D := D) (ci := 8) (v := .int 19) (C := RX8) (T := TX8) (N := 2) hx hb hts inT_X8 hown hK.1 hP 0 rfl rfl 1 (by decide) (hts _ k_151) (fun _ h9 => h9) rfl dX8_put_34 ?_
  refine lv_iconst (v := 1) hx hb dX8_put_37 (by decide) ?_
  refine lv_iadd hx hb dX8_put_38 ?_
  refine lv_topv (y := 20) (by decide) ?_
  refine va_put (D := D) (ci := 8) (v := .int 20) (ty := .int) (C := RX8) (T := TX8) (N := 2) hx hb hts inT_X8 tyX8 tyX8_ok nmX8 hown hK.1 hP hD hS 0 rfl rfl 1 (by decide) (hts _ k_151) (fun _ h9 => h9) rfl (by decide +kernel) rfl rfl (Nat.le_of_ble_eq_true rfl) dX8_put_39 (fun H locs hP hD hS => ?_)
  have hP : va_P D vwCl [(a 1, .inr (8, [.ref (a 17), .int 20])), (a 17, .inl (cB, 220, .inl f_12))] H := hP
  have hD : va_D A [(a 1, .inr (8, [.ref (a 17), .int 20])), (a 17, .inl (cB, 220, .inl f_12))] := hD
  refine lv_iinc (v := (-8)) (lv' := [(2, .int (-8)), (0, .ref (a 1)), (1, .int n1)]) hx hb dX8_put_42 hl (k := 0) rfl (by decide) (by decide) rfl (fun ls hl => ?_)
  refine lv_goto (tgt := 3) hx hb dX8_put_45 (by decide) ?_
  refine lv_iload_n hx hb dX8_put_3 rfl (lv_at hl 0 rfl) ?_
  refine lv_if_lt (tgt := 48) hx hb dX8_put_4 (by decide) (fun _ => ?_) (fun c => absurd c (by decide))
  exact W.vret hx hb hr (fun t ht hW => ⟨⟨f_12, rfl, trivial, ⟨by rw [ht]; exact hP, hD⟩⟩, hS.F ht⟩) hS.2.2 dX8_put_48 hlocks

set_option maxHeartbeats 4000000 in
set_option maxRecDepth 100000 in
theorem c_X4_touchAll (l : Launch) (D : va_G) (cI cB cZ cJ : ClassId) (tx : List (ClassId × FieldType)) (a : Nat → Nat) (st : Int32) (sk : Int32) (cu : Int32) (ch : Int32) (f : Nat → Int32) : WrV l D cI cB cZ cJ tx yX4_touchAll cX4_touchAll 2 none 0 0 0 [.ref (a 5)] [(a 5, .inr (4, [.ref (a 18), .ref (a 19), .ref (a 20), .ref (a 21), .ref (a 22), .ref (a 23), .ref (a 24), .int st, .int sk, .int cu, .int ch])), (a 23, .inl (cI, 8, .inl f))] (fun (_ : Nat → Int32) => True) (fun g => [(a 5, .inr (4, [.ref (a 18), .ref (a 19), .ref (a 20), .ref (a 21), .ref (a 22), .ref (a 23), .ref (a 24), .int st, .int sk, .int cu, .int ch])), (a 23, .inl (cI, 8, .inl g))]) := by
  refine wrv_of2 (by decide) (Nat.le_of_ble_eq_true rfl) ?_
  intro p e s m below meth c A ls H locs hC hK hP hD hA hS hl
  obtain ⟨hx, hb, hr, hml, hown, hts, hlocks, hin⟩ := hC
  have hown : s.vm.findClass RX4 = some m.cls := hown
  have hl : lv_has ls 2 [(0, .ref (a 5))] := hl
  refine lv_iconst (v := 0) hx hb dX4_touchAll_0 (by decide) ?_
  refine lv_istore_n (lv' := [(1, .int 0), (0, .ref (a 5))]) hx hb dX4_touchAll_1 rfl hl (by decide) rfl (fun ls hl => ?_)
  refine lv_iload_n hx hb dX4_touchAll_2 rfl (lv_at hl 0 rfl) ?_
  refine lv_bipush (v := 8) hx hb dX4_touchAll_3 (by decide) ?_
  refine lv_icmp_ge (tgt := 24) hx hb dX4_touchAll_5 (by decide) (fun c => absurd c (by decide)) (fun _ => ?_)
  refine lv_aload_n hx hb dX4_touchAll_8 rfl (lv_at hl 1 rfl) ?_
  refine va_get (D := D) (ci := 4) (v := .ref (a 23)) (C := RX4) (T := TX4) (N := 11) hx hb hts inT_X4 hown hK.1 hP 0 rfl rfl 5 (by decide) (hts _ k_245) (fun _ h9 => h9) rfl dX4_touchAll_9 ?_
  refine lv_iload_n hx hb dX4_touchAll_12 rfl (lv_at hl 0 rfl) ?_
  refine lv_dup2_11 hx hb dX4_touchAll_13 rfl rfl ?_
  refine ld_i hx hb hK hP 1 rfl (by unfold vp_in; decide) dX4_touchAll_14 (fun x_1 => ?_)
  refine lv_iconst (v := 1) hx hb dX4_touchAll_15 (by decide) ?_
  refine lv_iadd hx hb dX4_touchAll_16 ?_
  refine lv_topi (fun x_2 ex_2 => ?_)
  refine st_i hx hb hK hP hD hS 1 rfl (by unfold vp_in; decide) dX4_touchAll_17 (fun f_3 H locs hP hD hS => ?_)
  have hP : va_P D vwCl [(a 5, .inr (4, [.ref (a 18), .ref (a 19), .ref (a 20), .ref (a 21), .ref (a 22), .ref (a 23), .ref (a 24), .int st, .int sk, .int cu, .int ch])), (a 23, .inl (cI, 8, .inl f_3))] H := hP
  have hD : va_D A [(a 5, .inr (4, [.ref (a 18), .ref (a 19), .ref (a 20), .ref (a 21), .ref (a 22), .ref (a 23), .ref (a 24), .int st, .int sk, .int cu, .int ch])), (a 23, .inl (cI, 8, .inl f_3))] := hD
  refine lv_iinc (v := 1) (lv' := [(1, .int 1), (0, .ref (a 5))]) hx hb dX4_touchAll_18 hl (k := 0) rfl (by decide) (by decide) rfl (fun ls hl => ?_)
  refine lv_goto (tgt := 2) hx hb dX4_touchAll_21 (by decide) ?_
  refine lv_iload_n hx hb dX4_touchAll_2 rfl (lv_at hl 0 rfl) ?_
  refine lv_bipush (v := 8) hx hb dX4_touchAll_3 (by decide) ?_
  refine lv_icmp_ge (tgt := 24) hx hb dX4_touchAll_5 (by decide) (fun c => absurd c (by decide)) (fun _ => ?_)
  refine lv_aload_n hx hb dX4_touchAll_8 rfl (lv_at hl 1 rfl) ?_
  refine va_get (D := D) (ci := 4) (v := .ref (a 23)) (C := RX4) (T := TX4) (N := 11) hx hb hts inT_X4 hown hK.1 hP 0 rfl rfl 5 (by decide) (hts _ k_245) (fun _ h9 => h9) rfl dX4_touchAll_9 ?_
  refine lv_iload_n hx hb dX4_touchAll_12 rfl (lv_at hl 0 rfl) ?_
  refine lv_dup2_11 hx hb dX4_touchAll_13 rfl rfl ?_
  refine ld_i hx hb hK hP 1 rfl (by unfold vp_in; decide) dX4_touchAll_14 (fun x_4 => ?_)
  refine lv_iconst (v := 1) hx hb dX4_touchAll_15 (by decide) ?_
  refine lv_iadd hx hb dX4_touchAll_16 ?_
  refine lv_topi (fun x_5 ex_5 => ?_)
  refine st_i hx hb hK hP hD hS 1 rfl (by unfold vp_in; decide) dX4_touchAll_17 (fun f_6 H locs hP hD hS => ?_)
  have hP : va_P D vwCl [(a 5, .inr (4, [.ref (a 18), .ref (a 19), .ref (a 20), .ref (a 21), .ref (a 22), .ref (a 23), .ref (a 24), .int st, .int sk, .int cu, .int ch])), (a 23, .inl (cI, 8, .inl f_6))] H := hP
  have hD : va_D A [(a 5, .inr (4, [.ref (a 18), .ref (a 19), .ref (a 20), .ref (a 21), .ref (a 22), .ref (a 23), .ref (a 24), .int st, .int sk, .int cu, .int ch])), (a 23, .inl (cI, 8, .inl f_6))] := hD
  refine lv_iinc (v := 2) (lv' := [(1, .int 2), (0, .ref (a 5))]) hx hb dX4_touchAll_18 hl (k := 0) rfl (by decide) (by decide) rfl (fun ls hl => ?_)
  refine lv_goto (tgt := 2) hx hb dX4_touchAll_21 (by decide) ?_
  refine lv_iload_n hx hb dX4_touchAll_2 rfl (lv_at hl 0 rfl) ?_
  refine lv_bipush (v := 8) hx hb dX4_touchAll_3 (by decide) ?_
  refine lv_icmp_ge (tgt := 24) hx hb dX4_touchAll_5 (by decide) (fun c => absurd c (by decide)) (fun _ => ?_)
  refine lv_aload_n hx hb dX4_touchAll_8 rfl (lv_at hl 1 rfl) ?_
  refine va_get (D := D) (ci := 4) (v := .ref (a 23)) (C := RX4) (T := TX4) (N := 11) hx hb hts inT_X4 hown hK.1 hP 0 rfl rfl 5 (by decide) (hts _ k_245) (fun _ h9 => h9) rfl dX4_touchAll_9 ?_
  refine lv_iload_n hx hb dX4_touchAll_12 rfl (lv_at hl 0 rfl) ?_
  refine lv_dup2_11 hx hb dX4_touchAll_13 rfl rfl ?_
  refine ld_i hx hb hK hP 1 rfl (by unfold vp_in; decide) dX4_touchAll_14 (fun x_7 => ?_)
  refine lv_iconst (v := 1) hx hb dX4_touchAll_15 (by decide) ?_
  refine lv_iadd hx hb dX4_touchAll_16 ?_
  refine lv_topi (fun x_8 ex_8 => ?_)
  refine st_i hx hb hK hP hD hS 1 rfl (by unfold vp_in; decide) dX4_touchAll_17 (fun f_9 H locs hP hD hS => ?_)
  have hP : va_P D vwCl [(a 5, .inr (4, [.ref (a 18), .ref (a 19), .ref (a 20), .ref (a 21), .ref (a 22), .ref (a 23), .ref (a 24), .int st, .int sk, .int cu, .int ch])), (a 23, .inl (cI, 8, .inl f_9))] H := hP
  have hD : va_D A [(a 5, .inr (4, [.ref (a 18), .ref (a 19), .ref (a 20), .ref (a 21), .ref (a 22), .ref (a 23), .ref (a 24), .int st, .int sk, .int cu, .int ch])), (a 23, .inl (cI, 8, .inl f_9))] := hD
  refine lv_iinc (v := 3) (lv' := [(1, .int 3), (0, .ref (a 5))]) hx hb dX4_touchAll_18 hl (k := 0) rfl (by decide) (by decide) rfl (fun ls hl => ?_)
  refine lv_goto (tgt := 2) hx hb dX4_touchAll_21 (by decide) ?_
  refine lv_iload_n hx hb dX4_touchAll_2 rfl (lv_at hl 0 rfl) ?_
  refine lv_bipush (v := 8) hx hb dX4_touchAll_3 (by decide) ?_
  refine lv_icmp_ge (tgt := 24) hx hb dX4_touchAll_5 (by decide) (fun c => absurd c (by decide)) (fun _ => ?_)
  refine lv_aload_n hx hb dX4_touchAll_8 rfl (lv_at hl 1 rfl) ?_
  refine va_get (D := D) (ci := 4) (v := .ref (a 23)) (C := RX4) (T := TX4) (N := 11) hx hb hts inT_X4 hown hK.1 hP 0 rfl rfl 5 (by decide) (hts _ k_245) (fun _ h9 => h9) rfl dX4_touchAll_9 ?_
  refine lv_iload_n hx hb dX4_touchAll_12 rfl (lv_at hl 0 rfl) ?_
  refine lv_dup2_11 hx hb dX4_touchAll_13 rfl rfl ?_
  refine ld_i hx hb hK hP 1 rfl (by unfold vp_in; decide) dX4_touchAll_14 (fun x_10 => ?_)
  refine lv_iconst (v := 1) hx hb dX4_touchAll_15 (by decide) ?_
  refine lv_iadd hx hb dX4_touchAll_16 ?_
  refine lv_topi (fun x_11 ex_11 => ?_)
  refine st_i hx hb hK hP hD hS 1 rfl (by unfold vp_in; decide) dX4_touchAll_17 (fun f_12 H locs hP hD hS => ?_)
  have hP : va_P D vwCl [(a 5, .inr (4, [.ref (a 18), .ref (a 19), .ref (a 20), .ref (a 21), .ref (a 22), .ref (a 23), .ref (a 24), .int st, .int sk, .int cu, .int ch])), (a 23, .inl (cI, 8, .inl f_12))] H := hP
  have hD : va_D A [(a 5, .inr (4, [.ref (a 18), .ref (a 19), .ref (a 20), .ref (a 21), .ref (a 22), .ref (a 23), .ref (a 24), .int st, .int sk, .int cu, .int ch])), (a 23, .inl (cI, 8, .inl f_12))] := hD
  refine lv_iinc (v := 4) (lv' := [(1, .int 4), (0, .ref (a 5))]) hx hb dX4_touchAll_18 hl (k := 0) rfl (by decide) (by decide) rfl (fun ls hl => ?_)
  refine lv_goto (tgt := 2) hx hb dX4_touchAll_21 (by decide) ?_
  refine lv_iload_n hx hb dX4_touchAll_2 rfl (lv_at hl 0 rfl) ?_
  refine lv_bipush (v := 8) hx hb dX4_touchAll_3 (by decide) ?_
  refine lv_icmp_ge (tgt := 24) hx hb dX4_touchAll_5 (by decide) (fun c => absurd c (by decide)) (fun _ => ?_)
  refine lv_aload_n hx hb dX4_touchAll_8 rfl (lv_at hl 1 rfl) ?_
  refine va_get (D := D) (ci := 4) (v := .ref (a 23)) (C := RX4) (T := TX4) (N := 11) hx hb hts inT_X4 hown hK.1 hP 0 rfl rfl 5 (by decide) (hts _ k_245) (fun _ h9 => h9) rfl dX4_touchAll_9 ?_
  refine lv_iload_n hx hb dX4_touchAll_12 rfl (lv_at hl 0 rfl) ?_
  refine lv_dup2_11 hx hb dX4_touchAll_13 rfl rfl ?_
  refine ld_i hx hb hK hP 1 rfl (by unfold vp_in; decide) dX4_touchAll_14 (fun x_13 => ?_)
  refine lv_iconst (v := 1) hx hb dX4_touchAll_15 (by decide) ?_
  refine lv_iadd hx hb dX4_touchAll_16 ?_
  refine lv_topi (fun x_14 ex_14 => ?_)
  refine st_i hx hb hK hP hD hS 1 rfl (by unfold vp_in; decide) dX4_touchAll_17 (fun f_15 H locs hP hD hS => ?_)
  have hP : va_P D vwCl [(a 5, .inr (4, [.ref (a 18), .ref (a 19), .ref (a 20), .ref (a 21), .ref (a 22), .ref (a 23), .ref (a 24), .int st, .int sk, .int cu, .int ch])), (a 23, .inl (cI, 8, .inl f_15))] H := hP
  have hD : va_D A [(a 5, .inr (4, [.ref (a 18), .ref (a 19), .ref (a 20), .ref (a 21), .ref (a 22), .ref (a 23), .ref (a 24), .int st, .int sk, .int cu, .int ch])), (a 23, .inl (cI, 8, .inl f_15))] := hD
  refine lv_iinc (v := 5) (lv' := [(1, .int 5), (0, .ref (a 5))]) hx hb dX4_touchAll_18 hl (k := 0) rfl (by decide) (by decide) rfl (fun ls hl => ?_)
  refine lv_goto (tgt := 2) hx hb dX4_touchAll_21 (by decide) ?_
  refine lv_iload_n hx hb dX4_touchAll_2 rfl (lv_at hl 0 rfl) ?_
  refine lv_bipush (v := 8) hx hb dX4_touchAll_3 (by decide) ?_
  refine lv_icmp_ge (tgt := 24) hx hb dX4_touchAll_5 (by decide) (fun c => absurd c (by decide)) (fun _ => ?_)
  refine lv_aload_n hx hb dX4_touchAll_8 rfl (lv_at hl 1 rfl) ?_
  refine va_get (D := D) (ci := 4) (v := .ref (a 23)) (C := RX4) (T := TX4) (N := 11) hx hb hts inT_X4 hown hK.1 hP 0 rfl rfl 5 (by decide) (hts _ k_245) (fun _ h9 => h9) rfl dX4_touchAll_9 ?_
  refine lv_iload_n hx hb dX4_touchAll_12 rfl (lv_at hl 0 rfl) ?_
  refine lv_dup2_11 hx hb dX4_touchAll_13 rfl rfl ?_
  refine ld_i hx hb hK hP 1 rfl (by unfold vp_in; decide) dX4_touchAll_14 (fun x_16 => ?_)
  refine lv_iconst (v := 1) hx hb dX4_touchAll_15 (by decide) ?_
  refine lv_iadd hx hb dX4_touchAll_16 ?_
  refine lv_topi (fun x_17 ex_17 => ?_)
  refine st_i hx hb hK hP hD hS 1 rfl (by unfold vp_in; decide) dX4_touchAll_17 (fun f_18 H locs hP hD hS => ?_)
  have hP : va_P D vwCl [(a 5, .inr (4, [.ref (a 18), .ref (a 19), .ref (a 20), .ref (a 21), .ref (a 22), .ref (a 23), .ref (a 24), .int st, .int sk, .int cu, .int ch])), (a 23, .inl (cI, 8, .inl f_18))] H := hP
  have hD : va_D A [(a 5, .inr (4, [.ref (a 18), .ref (a 19), .ref (a 20), .ref (a 21), .ref (a 22), .ref (a 23), .ref (a 24), .int st, .int sk, .int cu, .int ch])), (a 23, .inl (cI, 8, .inl f_18))] := hD
  refine lv_iinc (v := 6) (lv' := [(1, .int 6), (0, .ref (a 5))]) hx hb dX4_touchAll_18 hl (k := 0) rfl (by decide) (by decide) rfl (fun ls hl => ?_)
  refine lv_goto (tgt := 2) hx hb dX4_touchAll_21 (by decide) ?_
  refine lv_iload_n hx hb dX4_touchAll_2 rfl (lv_at hl 0 rfl) ?_
  refine lv_bipush (v := 8) hx hb dX4_touchAll_3 (by decide) ?_
  refine lv_icmp_ge (tgt := 24) hx hb dX4_touchAll_5 (by decide) (fun c => absurd c (by decide)) (fun _ => ?_)
  refine lv_aload_n hx hb dX4_touchAll_8 rfl (lv_at hl 1 rfl) ?_
  refine va_get (D := D) (ci := 4) (v := .ref (a 23)) (C := RX4) (T := TX4) (N := 11) hx hb hts inT_X4 hown hK.1 hP 0 rfl rfl 5 (by decide) (hts _ k_245) (fun _ h9 => h9) rfl dX4_touchAll_9 ?_
  refine lv_iload_n hx hb dX4_touchAll_12 rfl (lv_at hl 0 rfl) ?_
  refine lv_dup2_11 hx hb dX4_touchAll_13 rfl rfl ?_
  refine ld_i hx hb hK hP 1 rfl (by unfold vp_in; decide) dX4_touchAll_14 (fun x_19 => ?_)
  refine lv_iconst (v := 1) hx hb dX4_touchAll_15 (by decide) ?_
  refine lv_iadd hx hb dX4_touchAll_16 ?_
  refine lv_topi (fun x_20 ex_20 => ?_)
  refine st_i hx hb hK hP hD hS 1 rfl (by unfold vp_in; decide) dX4_touchAll_17 (fun f_21 H locs hP hD hS => ?_)
  have hP : va_P D vwCl [(a 5, .inr (4, [.ref (a 18), .ref (a 19), .ref (a 20), .ref (a 21), .ref (a 22), .ref (a 23), .ref (a 24), .int st, .int sk, .int cu, .int ch])), (a 23, .inl (cI, 8, .inl f_21))] H := hP
  have hD : va_D A [(a 5, .inr (4, [.ref (a 18), .ref (a 19), .ref (a 20), .ref (a 21), .ref (a 22), .ref (a 23), .ref (a 24), .int st, .int sk, .int cu, .int ch])), (a 23, .inl (cI, 8, .inl f_21))] := hD
  refine lv_iinc (v := 7) (lv' := [(1, .int 7), (0, .ref (a 5))]) hx hb dX4_touchAll_18 hl (k := 0) rfl (by decide) (by decide) rfl (fun ls hl => ?_)
  refine lv_goto (tgt := 2) hx hb dX4_touchAll_21 (by decide) ?_
  refine lv_iload_n hx hb dX4_touchAll_2 rfl (lv_at hl 0 rfl) ?_
  refine lv_bipush (v := 8) hx hb dX4_touchAll_3 (by decide) ?_
  refine lv_icmp_ge (tgt := 24) hx hb dX4_touchAll_5 (by decide) (fun c => absurd c (by decide)) (fun _ => ?_)
  refine lv_aload_n hx hb dX4_touchAll_8 rfl (lv_at hl 1 rfl) ?_
  refine va_get (D := D) (ci := 4) (v := .ref (a 23)) (C := RX4) (T := TX4) (N := 11) hx hb hts inT_X4 hown hK.1 hP 0 rfl rfl 5 (by decide) (hts _ k_245) (fun _ h9 => h9) rfl dX4_touchAll_9 ?_
  refine lv_iload_n hx hb dX4_touchAll_12 rfl (lv_at hl 0 rfl) ?_
  refine lv_dup2_11 hx hb dX4_touchAll_13 rfl rfl ?_
  refine ld_i hx hb hK hP 1 rfl (by unfold vp_in; decide) dX4_touchAll_14 (fun x_22 => ?_)
  refine lv_iconst (v := 1) hx hb dX4_touchAll_15 (by decide) ?_
  refine lv_iadd hx hb dX4_touchAll_16 ?_
  refine lv_topi (fun x_23 ex_23 => ?_)
  refine st_i hx hb hK hP hD hS 1 rfl (by unfold vp_in; decide) dX4_touchAll_17 (fun f_24 H locs hP hD hS => ?_)
  have hP : va_P D vwCl [(a 5, .inr (4, [.ref (a 18), .ref (a 19), .ref (a 20), .ref (a 21), .ref (a 22), .ref (a 23), .ref (a 24), .int st, .int sk, .int cu, .int ch])), (a 23, .inl (cI, 8, .inl f_24))] H := hP
  have hD : va_D A [(a 5, .inr (4, [.ref (a 18), .ref (a 19), .ref (a 20), .ref (a 21), .ref (a 22), .ref (a 23), .ref (a 24), .int st, .int sk, .int cu, .int ch])), (a 23, .inl (cI, 8, .inl f_24))] := hD
  refine lv_iinc (v := 8) (lv' := [(1, .int 8), (0, .ref (a 5))]) hx hb dX4_touchAll_18 hl (k := 0) rfl (by decide) (by decide) rfl (fun ls hl => ?_)
  refine lv_goto (tgt := 2) hx hb dX4_touchAll_21 (by decide) ?_
  refine lv_iload_n hx hb dX4_touchAll_2 rfl (lv_at hl 0 rfl) ?_
  refine lv_bipush (v := 8) hx hb dX4_touchAll_3 (by decide) ?_
  refine lv_icmp_ge (tgt := 24) hx hb dX4_touchAll_5 (by decide) (fun _ => ?_) (fun c => absurd c (by decide))
  exact W.vret hx hb hr (fun t ht hW => ⟨⟨f_24, rfl, trivial, ⟨by rw [ht]; exact hP, hD⟩⟩, hS.F ht⟩) hS.2.2 dX4_touchAll_24 hlocks

set_option maxHeartbeats 4000000 in
set_option maxRecDepth 100000 in
theorem c_X4_cutAway (l : Launch) (D : va_G) (cI cB cZ cJ : ClassId) (tx : List (ClassId × FieldType)) (a : Nat → Nat) (st : Int32) (sk : Int32) (cu : Int32) (ch : Int32) (f : Nat → Int32) (n1 : Int32) : WrV l D cI cB cZ cJ tx yX4_cutAway cX4_cutAway 2 none 1 0 0 [.ref (a 5), .int n1] [(a 5, .inr (4, [.ref (a 18), .ref (a 19), .ref (a 20), .ref (a 21), .ref (a 22), .ref (a 23), .ref (a 24), .int st, .int sk, .int cu, .int ch])), (a 23, .inl (cI, 8, .inl f))] (fun (_ : Unit) => True) (fun _ => []) := by
  refine wrv_of2 (by decide) (Nat.le_of_ble_eq_true rfl) ?_
  intro p e s m below meth c A ls H locs hC hK hP hD hA hS hl
  obtain ⟨hx, hb, hr, hml, hown, hts, hlocks, hin⟩ := hC
  have hown : s.vm.findClass RX4 = some m.cls := hown
  have hl : lv_has ls 2 [(0, .ref (a 5)), (1, .int n1)] := hl
  refine lv_aload_n hx hb dX4_cutAway_0 rfl (lv_at hl 0 rfl) ?_
  refine lv_iload_n hx hb dX4_cutAway_1 rfl (lv_at hl 1 rfl) ?_
  refine va_put (D := D) (ci := 4) (v := .int n1) (ty := .int) (C := RX4) (T := TX4) (N := 11) hx hb hts inT_X4 tyX4 tyX4_ok nmX4 hown hK.1 hP hD hS 0 rfl rfl 9 (by decide) (hts _ k_261) (fun _ h9 => h9) rfl (by decide +kernel) rfl rfl (Nat.le_of_ble_eq_true rfl) dX4_cutAway_2 (fun H locs hP hD hS => ?_)
  have hP : va_P D vwCl [(a 5, .inr (4, [.ref (a 18), .ref (a 19), .ref (a 20), .ref (a 21), .ref (a 22), .ref (a 23), .ref (a 24), .int st, .int sk, .int n1, .int ch])), (a 23, .inl (cI, 8, .inl f))] H := hP
  have hD : va_D A [(a 5, .inr (4, [.ref (a 18), .ref (a 19), .ref (a 20), .ref (a 21), .ref (a 22), .ref (a 23), .ref (a 24), .int st, .int sk, .int n1, .int ch])), (a 23, .inl (cI, 8, .inl f))] := hD
  refine lv_aload_n hx hb dX4_cutAway_5 rfl (lv_at hl 0 rfl) ?_
  refine eWv (wr := []) (va_runV (As := []) (rest := []) ⟨hx, hb, hml, hown, hts⟩ (c_X4_touchAll l D cI cB cZ cJ tx a st sk n1 ch f H.size) (zV hts k_812 v_X4_touchAll ⟨Nat.le_of_ble_eq_true rfl, Nat.le_of_ble_eq_true rfl⟩) (pV (pxS hK hP hD [0, 1] (by decide) rfl) hK hP 0 rfl rfl) rfl rfl hl.1 rfl (lv_room (Nat.le_of_ble_eq_true rfl)) dX4_cutAway_6 ⟨Nat.le_of_ble_eq_true rfl, Nat.le_of_ble_eq_true rfl⟩) hP hD hS hA [0, 1] [] rfl rfl (by decide) (by decide) (fun u_2 H locs wr_1 hP hD hS => ?_)
  have hP : va_P D vwCl [(a 5, .inr (4, [.ref (a 18), .ref (a 19), .ref (a 20), .ref (a 21), .ref (a 22), .ref (a 23), .ref (a 24), .int st, .int sk, .int n1, .int ch])), (a 23, .inl (cI, 8, .inl u_2))] H := hP
  have hD : va_D A [(a 5, .inr (4, [.ref (a 18), .ref (a 19), .ref (a 20), .ref (a 21), .ref (a 22), .ref (a 23), .ref (a 24), .int st, .int sk, .int n1, .int ch])), (a 23, .inl (cI, 8, .inl u_2))] := hD
  exact W.vret hx hb hr (fun t ht hW => ⟨⟨(), rfl, trivial, bx0⟩, hS.F ht⟩) hS.2.2 dX4_cutAway_9 hlocks
