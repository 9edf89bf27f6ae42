theorem pos_of {x M : Int32} (h : 1 ≤ x ∧ x ≤ M) : 0 < x := by
  have h2 := Int32.le_iff_toInt_le.mp h.1
  have h4 : (0 : Int32).toInt = 0 := by decide
  have h5 : (1 : Int32).toInt = 1 := by decide
  exact Int32.lt_iff_toInt_lt.mpr (by omega)
theorem lf_J7_fill_2 (b1 : Nat) (N : Nat) (f : Nat → Int32) (n1 : Int32) (hN : N < 2 ^ 31) (j : Nat) (y5_b1 : Nat → Int32) (k5 : Nat) (hj5 : j ≤ N) (hk5 : N < j + (k5 + 1)) (c_1 : ¬ nI N ≤ nI j) : j < N := by
  rcases Nat.lt_or_ge j N with q | q
  · exact q
  · exact absurd (nI_le q (by omega)) (by assumption)
theorem lf_J7_fill_3 (b1 : Nat) (N : Nat) (f : Nat → Int32) (n1 : Int32) (hN : N < 2 ^ 31) (j : Nat) (y5_b1 : Nat → Int32) (k5 : Nat) (hj5 : j ≤ N) (hk5 : N < j + (k5 + 1)) (c_1 : ¬ nI N ≤ nI j) (hlt5 : j < N) : vp_in (nI j) N := by
  exact vp_in_nI hlt5 hN
set_option maxHeartbeats 4000000 in
set_option maxRecDepth 100000 in
theorem c_J7_fill (l : Launch) (D : va_G) (cI cB cZ cJ : ClassId) (tx : List (ClassId × FieldType)) (b1 : Nat) (N : Nat) (f : Nat → Int32) (n1 : Int32) (hN : N < 2 ^ 31) : WrV l D cI cB cZ cJ tx yJ7_fill_53178 cJ7_fill_53178 4 none 0 0 0 [.ref b1, .int n1] [(b1, .inl (cI, N, .inl f))] (fun (_ : Nat → Int32) => True) (fun g => [(b1, .inl (cI, N, .inl g))]) := by
  refine wrv_of2 (by decide) (Nat.le_of_ble_eq_true rfl) ?_
  intro p e s m below meth c A ls H locs hC hK hP hD hA hS hl
  obtain ⟨hx, hb, hr, hml, hown, hts, hlocks, hin⟩ := hC
  have hown : s.vm.findClass RJ7 = some m.cls := hown
  have hl : lv_has ls 4 [(0, .ref b1), (1, .int n1)] := hl
  refine lv_iconst (v := 0) hx hb dJ7_fill_53178_0 (by decide) ?_
  refine lv_istore_n (lv' := [(2, .int 0), (0, .ref b1), (1, .int n1)]) hx hb dJ7_fill_53178_1 rfl hl (by decide) rfl (fun ls hl => ?_)
  refine lv_aload_n hx hb dJ7_fill_53178_2 rfl (lv_at hl 1 rfl) ?_
  refine ln_x (v := nI N) hx hb hK hP 0 0 rfl rfl rfl dJ7_fill_53178_3 ?_
  refine lv_istore_n (lv' := [(3, .int (nI N)), (2, .int 0), (0, .ref b1), (1, .int n1)]) hx hb dJ7_fill_53178_4 rfl hl (by decide) rfl (fun ls hl => ?_)
  have lp5 : ∀ (k5 : Nat) (j : Nat) (y5_b1 : Nat → Int32) (H : Heap) (locs : List Loc) (ls : Array Slot), j ≤ N → N < j + k5 → va_P D vwCl [(b1, .inl (cI, N, .inl y5_b1))] H → va_D A [(b1, .inl (cI, N, .inl y5_b1))] → va_S A s.heap H locs → lv_has ls 4 [(3, .int (nI N)), (2, .int (nI j)), (0, .ref b1), (1, .int n1)] → W p l e (rmX 0 0 0) s m ([.ref b1, .int n1] : List Value).toArray below meth c H locs 0 0 (MQ below (va_Qv (fun (_ : Nat → Int32) => True) (fun u => BX D A ((fun g => [(b1, .inl (cI, N, .inl g))]) u)) A) ([.ref b1, .int n1] : List Value).toArray s 0 0 A) (F0 m 5 ls []) := by
    intro k5
    induction k5 with
    | zero =>
      intro j y5_b1 H locs ls hj5 hk5  hP hD hS hl
      exact absurd hk5 (by omega)
    | succ k5 ih5 =>
      intro j y5_b1 H locs ls hj5 hk5  hP hD hS hl
      refine lv_iload_n hx hb dJ7_fill_53178_5 rfl (lv_at hl 1 rfl) ?_
      refine lv_iload_n hx hb dJ7_fill_53178_6 rfl (lv_at hl 0 rfl) ?_
      refine lv_icmp_ge (tgt := 20) hx hb dJ7_fill_53178_7 (by decide) (fun c_1 => ?_) (fun c_1 => ?_)
      · exact W.vret hx hb hr (fun t ht hW => ⟨⟨y5_b1, rfl, trivial, ⟨by rw [ht]; exact hP, hD⟩⟩, hS.F ht⟩) hS.2.2 dJ7_fill_53178_20 hlocks
      · have hlt5 : j < N := (lf_J7_fill_2 b1 N f n1 hN j y5_b1 k5 hj5 hk5 c_1)
        refine lv_aload_n hx hb dJ7_fill_53178_10 rfl (lv_at hl 2 rfl) ?_
        refine lv_iload_n hx hb dJ7_fill_53178_11 rfl (lv_at hl 1 rfl) ?_
        refine lv_iload_n hx hb dJ7_fill_53178_12 rfl (lv_at hl 3 rfl) ?_
        refine st_i hx hb hK hP hD hS 0 rfl (lf_J7_fill_3 b1 N f n1 hN j y5_b1 k5 hj5 hk5 c_1 hlt5) dJ7_fill_53178_13 (fun f_4 H locs hP hD hS => ?_)
        have hP : va_P D vwCl [(b1, .inl (cI, N, .inl f_4))] H := hP
        have hD : va_D A [(b1, .inl (cI, N, .inl f_4))] := hD
        obtain ⟨x_5, ex_5⟩ : ∃ z : Int32, z = nI j + Int32.ofInt 1 := ⟨_, rfl⟩
        refine lv_iinc (v := x_5) (lv' := [(2, .int x_5), (3, .int (nI N)), (0, .ref b1), (1, .int n1)]) hx hb dJ7_fill_53178_14 hl (k := 1) rfl (ex_5.symm) (by decide) rfl (fun ls hl => ?_)
        refine lv_goto (tgt := 5) hx hb dJ7_fill_53178_17 (by decide) ?_
        have ej_6 : x_5 = nI (j + 1) := ex_5.trans (nI_1 j)
        rw [ej_6] at hl
        exact ih5 (j + 1) f_4 H locs ls (by omega) (by omega)  (hP.sub [0] rfl) (hD.sub [0] (by decide) rfl) hS (lv_sub hl [1, 0, 2, 3] rfl)
  exact lp5 (N + 1) 0 f H locs ls (by omega) (by omega)  (hP.sub [0] rfl) (hD.sub [0] (by decide) rfl) hS (lv_sub hl [0, 1, 2, 3] rfl)

set_option maxHeartbeats 4000000 in
set_option maxRecDepth 100000 in
theorem c_X0_fall (l : Launch) (D : va_G) (cI cB cZ cJ : ClassId) (tx : List (ClassId × FieldType)) (a : Nat → Nat) : WrV l D cI cB cZ cJ tx yX0_fall cX0_fall 1 none 0 0 0 [.ref (a 6)] [(a 6, .inr (0, [.ref (a 5), .ref (a 25), .ref (a 26), .ref (a 27), .ref (a 28), .ref (a 29), .int 0]))] (fun (_ : Unit) => True) (fun _ => []) := by
  refine wrv_of2 (by decide) (Nat.le_of_ble_eq_true rfl) ?_
  intro p e s m below meth c A ls H locs hC hK hP hD hA hS hl
  obtain ⟨hx, hb, hr, hml, hown, hts, hlocks, hin⟩ := hC
  have hown : s.vm.findClass RX0 = some m.cls := hown
  have hl : lv_has ls 1 [(0, .ref (a 6))] := hl
  refine lv_aload_n hx hb dX0_fall_0 rfl (lv_at hl 0 rfl) ?_
  refine lv_iconst (v := 0) hx hb dX0_fall_1 (by decide) ?_
  refine va_put (D := D) (ci := 0) (v := .int 0) (ty := .int) (C := RX0) (T := TX0) (N := 7) hx hb hts inT_X0 tyX0 tyX0_ok nmX0 hown hK.1 hP hD hS 0 rfl rfl 6 (by decide) (hts _ k_300) (fun _ h9 => h9) rfl (by decide +kernel) rfl rfl (Nat.le_of_ble_eq_true rfl) dX0_fall_2 (fun H locs hP hD hS => ?_)
  have hP : va_P D vwCl [(a 6, .inr (0, [.ref (a 5), .ref (a 25), .ref (a 26), .ref (a 27), .ref (a 28), .ref (a 29), .int 0]))] H := hP
  have hD : va_D A [(a 6, .inr (0, [.ref (a 5), .ref (a 25), .ref (a 26), .ref (a 27), .ref (a 28), .ref (a 29), .int 0]))] := hD
  exact W.vret hx hb hr (fun t ht hW => ⟨⟨(), rfl, trivial, bx0⟩, hS.F ht⟩) hS.2.2 dX0_fall_5 hlocks

theorem lf_X10_fall_1 (a : Nat → Nat) : 48 < 2 ^ 31 := by
  decide
set_option maxHeartbeats 4000000 in
set_option maxRecDepth 100000 in
theorem c_X10_fall (l : Launch) (D : va_G) (cI cB cZ cJ : ClassId) (tx : List (ClassId × FieldType)) (a : Nat → Nat) : WrV l D cI cB cZ cJ tx yX10_fall cX10_fall 1 none 1 0 0 [.ref (a 10)] [(a 10, .inr (10, [.ref (a 5), .ref (a 46)])), (a 46, .inl (cI, 48, .inl (fun _ => 0)))] (fun (_ : Unit) => True) (fun _ => []) := by
  refine wrv_of2 (by decide) (Nat.le_of_ble_eq_true rfl) ?_
  intro p e s m below meth c A ls H locs hC hK hP hD hA hS hl
  obtain ⟨hx, hb, hr, hml, hown, hts, hlocks, hin⟩ := hC
  have hown : s.vm.findClass RX10 = some m.cls := hown
  have hl : lv_has ls 1 [(0, .ref (a 10))] := hl
  refine lv_aload_n hx hb dX10_fall_0 rfl (lv_at hl 0 rfl) ?_
  refine va_get (D := D) (ci := 10) (v := .ref (a 46)) (C := RX10) (T := TX10) (N := 2) hx hb hts inT_X10 hown hK.1 hP 0 rfl rfl 1 (by decide) (hts _ k_429) (fun _ h9 => h9) rfl dX10_fall_1 ?_
  refine lv_iconst (v := (-1)) hx hb dX10_fall_4 (by decide) ?_
  refine eWv (wr := [(a 10, .inr (10, [.ref (a 5), .ref (a 46)]))]) (va_runS (As := [.ref (a 46), .int (-1)]) (rest := []) ⟨hx, hb, hml, hown, hts⟩ (c_J7_fill l D cI cB cZ cJ tx (a 46) 48 (fun _ => 0) (-1) (lf_X10_fall_1 a) H.size) (zS hts k_761 v_J7_fill_53178 ⟨Nat.le_of_ble_eq_true rfl, Nat.le_of_ble_eq_true rfl⟩) (pxS hK hP hD [1] (by decide) rfl) rfl rfl hl.1 rfl (lv_room (Nat.le_of_ble_eq_true rfl)) dX10_fall_5 ⟨Nat.le_of_ble_eq_true rfl, Nat.le_of_ble_eq_true rfl⟩) hP hD hS hA [1] [0] rfl rfl (by decide) (by decide) (fun u_3 H locs wr_2 hP hD hS => ?_)
  have hP : va_P D vwCl [(a 10, .inr (10, [.ref (a 5), .ref (a 46)])), (a 46, .inl (cI, 48, .inl u_3))] H := hP
  have hD : va_D A [(a 10, .inr (10, [.ref (a 5), .ref (a 46)])), (a 46, .inl (cI, 48, .inl u_3))] := hD
  exact W.vret hx hb hr (fun t ht hW => ⟨⟨(), rfl, trivial, bx0⟩, hS.F ht⟩) hS.2.2 dX10_fall_8 hlocks

theorem lf_X9_value_0_1 (a : Nat → Nat) (n1 : Int32) (b1 : Nat) (n2 : Int32) (n3 : Int32) : (0 : Int32) = 0 := by
  first | rfl | assumption | (simp_all; done) | grind
set_option maxHeartbeats 4000000 in
set_option maxRecDepth 100000 in
theorem c_X9_value_0 (l : Launch) (D : va_G) (cI cB cZ cJ : ClassId) (tx : List (ClassId × FieldType)) (a : Nat → Nat) (n1 : Int32) (b1 : Nat) (n2 : Int32) (n3 : Int32) : RdI l D cI cB cZ cJ tx yX9_value cX9_value 6 (some .int) 0 [.ref (a 13), .int n1, .ref b1, .int n2, .int n3] [(a 13, .inr (9, [.ref (a 51), .ref (a 52), .ref (a 53), .ref (a 54), .ref (a 55), .int 0, .int 0, .int 0, .int 0]))] (fun r => r = 0) := by
  refine rdi_of2 (by decide) (Nat.le_of_ble_eq_true rfl) ?_
  intro p e s m below meth c A ls H locs hC hK hP hA hS hl
  obtain ⟨hx, hb, hr, hml, hown, hts, hlocks, hin⟩ := hC
  have hown : s.vm.findClass RX9 = some m.cls := hown
  have hl : lv_has ls 6 [(0, .ref (a 13)), (1, .int n1), (2, .ref b1), (3, .int n2), (4, .int n3)] := hl
  refine lv_iconst (v := 0) hx hb dX9_value_0 (by decide) ?_
  refine lv_istore (lv' := [(5, .int 0), (0, .ref (a 13)), (1, .int n1), (2, .ref b1), (3, .int n2), (4, .int n3)]) hx hb dX9_value_1 hl (by decide) rfl (fun ls hl => ?_)
  refine lv_iload hx hb dX9_value_3 (lv_at hl 0 rfl) ?_
  refine lv_aload_n hx hb dX9_value_5 rfl (lv_at hl 1 rfl) ?_
  refine va_get (D := D) (ci := 9) (v := .int 0) (C := RX9) (T := TX9) (N := 9) hx hb hts inT_X9 hown hK.1 hP 0 rfl rfl 6 (by decide) (hts _ k_200) (fun _ h9 => h9) rfl dX9_value_6 ?_
  refine lv_icmp_ge (tgt := 63) hx hb dX9_value_9 (by decide) (fun _ => ?_) (fun c => absurd c (by decide))
  refine lv_iconst (v := 0) hx hb dX9_value_63 (by decide) ?_
  exact W.iret (v := 0) hx hb hr (fun t ht hW => ⟨⟨(0 : Int32), (), rfl, (lf_X9_value_0_1 a n1 b1 n2 n3), trivial⟩, hS.F ht⟩) hS.2.2 dX9_value_64 hlocks

theorem lf_X9_value_2_1 (a : Nat → Nat) (n1 : Int32) (b1 : Nat) (n2 : Int32) (n3 : Int32) : (0 : Int32) = 0 := by
  first | rfl | assumption | (simp_all; done) | grind
set_option maxHeartbeats 4000000 in
set_option maxRecDepth 100000 in
theorem c_X9_value_2 (l : Launch) (D : va_G) (cI cB cZ cJ : ClassId) (tx : List (ClassId × FieldType)) (a : Nat → Nat) (n1 : Int32) (b1 : Nat) (n2 : Int32) (n3 : Int32) : RdI l D cI cB cZ cJ tx yX9_value cX9_value 6 (some .int) 0 [.ref (a 15), .int n1, .ref b1, .int n2, .int n3] [(a 15, .inr (9, [.ref (a 61), .ref (a 62), .ref (a 63), .ref (a 64), .ref (a 65), .int 0, .int 0, .int 0, .int 0]))] (fun r => r = 0) := by
  refine rdi_of2 (by decide) (Nat.le_of_ble_eq_true rfl) ?_
  intro p e s m below meth c A ls H locs hC hK hP hA hS hl
  obtain ⟨hx, hb, hr, hml, hown, hts, hlocks, hin⟩ := hC
  have hown : s.vm.findClass RX9 = some m.cls := hown
  have hl : lv_has ls 6 [(0, .ref (a 15)), (1, .int n1), (2, .ref b1), (3, .int n2), (4, .int n3)] := hl
  refine lv_iconst (v := 0) hx hb dX9_value_0 (by decide) ?_
  refine lv_istore (lv' := [(5, .int 0), (0, .ref (a 15)), (1, .int n1), (2, .ref b1), (3, .int n2), (4, .int n3)]) hx hb dX9_value_1 hl (by decide) rfl (fun ls hl => ?_)
  refine lv_iload hx hb dX9_value_3 (lv_at hl 0 rfl) ?_
  refine lv_aload_n hx hb dX9_value_5 rfl (lv_at hl 1 rfl) ?_
  refine va_get (D := D) (ci := 9) (v := .int 0) (C := RX9) (T := TX9) (N := 9) hx hb hts inT_X9 hown hK.1 hP 0 rfl rfl 6 (by decide) (hts _ k_200) (fun _ h9 => h9) rfl dX9_value_6 ?_
  refine lv_icmp_ge (tgt := 63) hx hb dX9_value_9 (by decide) (fun _ => ?_) (fun c => absurd c (by decide))
  refine lv_iconst (v := 0) hx hb dX9_value_63 (by decide) ?_
  exact W.iret (v := 0) hx hb hr (fun t ht hW => ⟨⟨(0 : Int32), (), rfl, (lf_X9_value_2_1 a n1 b1 n2 n3), trivial⟩, hS.F ht⟩) hS.2.2 dX9_value_64 hlocks

theorem lf_X11_lasts_3 (a : Nat → Nat) (n1 : Int32) (n2 : Int32) (c_2 : ¬ ((1 : Int32) ≤ n1 ∧ n1 ≤ 10000)) : ((-1) : Int32) = (if (1 ≤ n1 ∧ n1 ≤ 10000) ∧ 0 ≤ n2 ∧ n2 ≤ 100 then -2 else -1) := by
  first | (rw [if_pos ⟨by assumption, by assumption⟩]; done) | (rw [if_neg (by grind)]; done)
theorem lf_X11_lasts_10 (a : Nat → Nat) (n1 : Int32) (n2 : Int32) (c_2 : (1 : Int32) ≤ n1 ∧ n1 ≤ 10000) (c_5 : (0 : Int32) ≤ n2 ∧ n2 ≤ 100) (j : Nat) (sv : Int32) (y64_a4 : Nat → Int32) (k64 : Nat) (hj64 : j ≤ 2000) (hk64 : 2000 < j + (k64 + 1)) (hsv : 0 < sv) (c_9 : 2000 ≤ nI j) : ((-2) : Int32) = (if (1 ≤ n1 ∧ n1 ≤ 10000) ∧ 0 ≤ n2 ∧ n2 ≤ 100 then -2 else -1) := by
  first | (rw [if_pos ⟨by assumption, by assumption⟩]; done) | (rw [if_neg (by grind)]; done)
theorem lf_X11_lasts_11 (a : Nat → Nat) (n1 : Int32) (n2 : Int32) (c_2 : (1 : Int32) ≤ n1 ∧ n1 ≤ 10000) (c_5 : (0 : Int32) ≤ n2 ∧ n2 ≤ 100) (j : Nat) (sv : Int32) (y64_a4 : Nat → Int32) (k64 : Nat) (hj64 : j ≤ 2000) (hk64 : 2000 < j + (k64 + 1)) (hsv : 0 < sv) (c_9 : ¬ 2000 ≤ nI j) : j < 2000 := by
  rcases Nat.lt_or_ge j 2000 with q | q
  · exact q
  · exact absurd (nI_le q (by omega)) (by assumption)
theorem lf_X11_lasts_17 (a : Nat → Nat) (n1 : Int32) (n2 : Int32) (c_2 : (1 : Int32) ≤ n1 ∧ n1 ≤ 10000) (c_5 : (0 : Int32) ≤ n2 ∧ n2 ≤ 100) (j : Nat) (sv : Int32) (y64_a4 : Nat → Int32) (k64 : Nat) (hj64 : j ≤ 2000) (hk64 : 2000 < j + (k64 + 1)) (hsv : 0 < sv) (c_9 : ¬ 2000 ≤ nI j) (hlt64 : j < 2000) (x_15 : Int32) (ex_15 : x_15 = sv - 0) (c_16 : ¬ 0 < x_15) : False := by
  subst_vars; simp only [Int32.sub_zero] at *; contradiction
theorem lf_X11_lasts_20 (a : Nat → Nat) (n1 : Int32) (n2 : Int32) (c_2 : (1 : Int32) ≤ n1 ∧ n1 ≤ 10000) (c_5 : (0 : Int32) ≤ n2 ∧ n2 ≤ 100) (j : Nat) (sv : Int32) (y64_a4 : Nat → Int32) (k64 : Nat) (hj64 : j ≤ 2000) (hk64 : 2000 < j + (k64 + 1)) (hsv : 0 < sv) (c_9 : ¬ 2000 ≤ nI j) (hlt64 : j < 2000) (x_15 : Int32) (ex_15 : x_15 = sv - 0) (c_16 : 0 < x_15) (x_18 : Int32) (ex_18 : x_18 = nI j + Int32.ofInt 1) (ej_19 : x_18 = nI (j + 1)) : 0 < x_15 := by
  first | assumption | (exact pos_of (by assumption))
theorem lf_X11_lasts_21 (a : Nat → Nat) (n1 : Int32) (n2 : Int32) (c_2 : (1 : Int32) ≤ n1 ∧ n1 ≤ 10000) (c_5 : (0 : Int32) ≤ n2 ∧ n2 ≤ 100) : 0 < n1 := by
  first | assumption | (exact pos_of (by assumption))
theorem lf_X11_lasts_22 (a : Nat → Nat) (n1 : Int32) (n2 : Int32) (c_2 : (1 : Int32) ≤ n1 ∧ n1 ≤ 10000) (c_5 : ¬ ((0 : Int32) ≤ n2 ∧ n2 ≤ 100)) : ((-1) : Int32) = (if (1 ≤ n1 ∧ n1 ≤ 10000) ∧ 0 ≤ n2 ∧ n2 ≤ 100 then -2 else -1) := by
  first | (rw [if_pos ⟨by assumption, by assumption⟩]; done) | (rw [if_neg (by grind)]; done)
set_option maxHeartbeats 4000000 in
set_option maxRecDepth 100000 in
theorem c_X11_lasts (l : Launch) (D : va_G) (cI cB cZ cJ : ClassId) (cT : ClassId) (a : Nat → Nat) (n1 : Int32) (n2 : Int32) : WrI l D cI cB cZ cJ [(cT, .object "NailStain$Text")] yX11_lasts cX11_lasts 5 (some .int) 1 0 0 [.ref (a 0), .int n1, .int n2] [(a 0, .inr (11, [.ref (a 1), .ref (a 2), .ref (a 3), .ref (a 4), .ref (a 5), .ref (a 6), .ref (a 7), .ref (a 8), .ref (a 9), .ref (a 10), .ref (a 11), .ref (a 12), .int 100])), (a 3, .inl (cT, 4, .inr (.inr (.inr (.inr (fun j => if j < 4 then some (a (13 + j)) else none)))))), (a 4, .inl (cI, 26, .inl (fun _ => 0))), (a 5, .inr (4, [.ref (a 18), .ref (a 19), .ref (a 20), .ref (a 21), .ref (a 22), .ref (a 23), .ref (a 24), .int 0, .int 0, .int 0, .int 1])), (a 15, .inr (9, [.ref (a 61), .ref (a 62), .ref (a 63), .ref (a 64), .ref (a 65), .int 0, .int 0, .int 0, .int 0]))] (fun (r : Int32) (_ : Unit) => r = (if (1 ≤ n1 ∧ n1 ≤ 10000) ∧ 0 ≤ n2 ∧ n2 ≤ 100 then -2 else -1)) (fun _ => []) := by
  refine wri_of2 (by decide) (Nat.le_of_ble_eq_true rfl) ?_
  intro p e s m below meth c A ls H locs hC hK hP hD hA hS hl
  obtain ⟨hx, hb, hr, hml, hown, hts, hlocks, hin⟩ := hC
  have hown : s.vm.findClass RX11 = some m.cls := hown
  have hl : lv_has ls 5 [(0, .ref (a 0)), (1, .int n1), (2, .int n2)] := hl
  refine lv_iload_n hx hb dX11_lasts_0 rfl (lv_at hl 1 rfl) ?_
  refine lv_iconst (v := 1) hx hb dX11_lasts_1 (by decide) ?_
  refine lv_sipush (v := 10000) hx hb dX11_lasts_2 (by decide) ?_
  refine eRi (va_runS (As := [.int n1, .int 1, .int 10000]) (rest := []) ⟨hx, hb, hml, hown, hts⟩ (c_X11_within l D cI cB cZ cJ [(cT, .object "NailStain$Text")] n1 1 10000 H.size) (zS hts k_527 v_X11_within ⟨Nat.le_of_ble_eq_true rfl, Nat.le_of_ble_eq_true rfl⟩) (px0 hK) rfl rfl hl.1 rfl (lv_room (Nat.le_of_ble_eq_true rfl)) dX11_lasts_5 ⟨Nat.le_of_ble_eq_true rfl, Nat.le_of_ble_eq_true rfl⟩) hP hS hA (fun r_1 H locs wr_1 hP hS => ?_)
  subst wr_1
  refine lv_bi_eq (tgt := 21) hx hb dX11_lasts_8 (by decide) (fun c_2 => ?_) (fun c_2 => ?_)
  · refine lv_iconst (v := (-1)) hx hb dX11_lasts_21 (by decide) ?_
    exact W.iret (v := (-1)) hx hb hr (fun t ht hW => ⟨⟨((-1) : Int32), (), rfl, (lf_X11_lasts_3 a n1 n2 c_2), bx0⟩, hS.F ht⟩) hS.2.2 dX11_lasts_22 hlocks
  · refine lv_iload_n hx hb dX11_lasts_11 rfl (lv_at hl 2 rfl) ?_
    refine lv_iconst (v := 0) hx hb dX11_lasts_12 (by decide) ?_
    refine lv_bipush (v := 100) hx hb dX11_lasts_13 (by decide) ?_
    refine eRi (va_runS (As := [.int n2, .int 0, .int 100]) (rest := []) ⟨hx, hb, hml, hown, hts⟩ (c_X11_within l D cI cB cZ cJ [(cT, .object "NailStain$Text")] n2 0 100 H.size) (zS hts k_527 v_X11_within ⟨Nat.le_of_ble_eq_true rfl, Nat.le_of_ble_eq_true rfl⟩) (px0 hK) rfl rfl hl.1 rfl (lv_room (Nat.le_of_ble_eq_true rfl)) dX11_lasts_15 ⟨Nat.le_of_ble_eq_true rfl, Nat.le_of_ble_eq_true rfl⟩) hP hS hA (fun r_4 H locs wr_4 hP hS => ?_)
    subst wr_4
    refine lv_bi_ne (tgt := 23) hx hb dX11_lasts_18 (by decide) (fun c_5 => ?_) (fun c_5 => ?_)
    · refine lv_aload_n hx hb dX11_lasts_23 rfl (lv_at hl 0 rfl) ?_
      refine va_get (D := D) (ci := 11) (v := .ref (a 4)) (C := RX11) (T := TX11) (N := 13) hx hb hts inT_X11 hown hK.1 hP 0 rfl rfl 3 (by decide) (hts _ k_486) (fun _ h9 => h9) rfl dX11_lasts_24 ?_
      refine lv_bipush (v := 13) hx hb dX11_lasts_27 (by decide) ?_
      refine lv_aload_n hx hb dX11_lasts_29 rfl (lv_at hl 0 rfl) ?_
      refine va_get (D := D) (ci := 11) (v := .ref (a 5)) (C := RX11) (T := TX11) (N := 13) hx hb hts inT_X11 hown hK.1 hP 0 rfl rfl 4 (by decide) (hts _ k_487) (fun _ h9 => h9) rfl dX11_lasts_30 ?_
      refine va_getN (D := D) (ci := 4) (v := .int 0) (C := RX4) (T := TX4) (N := 11) hx hb hts inT_X4 hown hK.1 hP 3 rfl rfl 7 (by decide) (va_Nw.use rfl (hK.2.2.1 _ n_254)) (fun _ h9 => h9) rfl dX11_lasts_33 ?_
      refine st_i hx hb hK hP hD hS 2 rfl (by unfold vp_in; decide) dX11_lasts_36 (fun f_6 H locs hP hD hS => ?_)
      have hP : va_P D vwCl [(a 0, .inr (11, [.ref (a 1), .ref (a 2), .ref (a 3), .ref (a 4), .ref (a 5), .ref (a 6), .ref (a 7), .ref (a 8), .ref (a 9), .ref (a 10), .ref (a 11), .ref (a 12), .int 100])), (a 3, .inl (cT, 4, .inr (.inr (.inr (.inr (fun j => if j < 4 then some (a (13 + j)) else none)))))), (a 4, .inl (cI, 26, .inl f_6)), (a 5, .inr (4, [.ref (a 18), .ref (a 19), .ref (a 20), .ref (a 21), .ref (a 22), .ref (a 23), .ref (a 24), .int 0, .int 0, .int 0, .int 1])), (a 15, .inr (9, [.ref (a 61), .ref (a 62), .ref (a 63), .ref (a 64), .ref (a 65), .int 0, .int 0, .int 0, .int 0]))] H := hP
      have hD : va_D A [(a 0, .inr (11, [.ref (a 1), .ref (a 2), .ref (a 3), .ref (a 4), .ref (a 5), .ref (a 6), .ref (a 7), .ref (a 8), .ref (a 9), .ref (a 10), .ref (a 11), .ref (a 12), .int 100])), (a 3, .inl (cT, 4, .inr (.inr (.inr (.inr (fun j => if j < 4 then some (a (13 + j)) else none)))))), (a 4, .inl (cI, 26, .inl f_6)), (a 5, .inr (4, [.ref (a 18), .ref (a 19), .ref (a 20), .ref (a 21), .ref (a 22), .ref (a 23), .ref (a 24), .int 0, .int 0, .int 0, .int 1])), (a 15, .inr (9, [.ref (a 61), .ref (a 62), .ref (a 63), .ref (a 64), .ref (a 65), .int 0, .int 0, .int 0, .int 0]))] := hD
      refine lv_aload_n hx hb dX11_lasts_37 rfl (lv_at hl 0 rfl) ?_
      refine va_get (D := D) (ci := 11) (v := .ref (a 4)) (C := RX11) (T := TX11) (N := 13) hx hb hts inT_X11 hown hK.1 hP 0 rfl rfl 3 (by decide) (hts _ k_486) (fun _ h9 => h9) rfl dX11_lasts_38 ?_
      refine lv_bipush (v := 10) hx hb dX11_lasts_41 (by decide) ?_
      refine lv_aload_n hx hb dX11_lasts_43 rfl (lv_at hl 0 rfl) ?_
      refine va_get (D := D) (ci := 11) (v := .ref (a 5)) (C := RX11) (T := TX11) (N := 13) hx hb hts inT_X11 hown hK.1 hP 0 rfl rfl 4 (by decide) (hts _ k_487) (fun _ h9 => h9) rfl dX11_lasts_44 ?_
      refine va_getN (D := D) (ci := 4) (v := .int 0) (C := RX4) (T := TX4) (N := 11) hx hb hts inT_X4 hown hK.1 hP 3 rfl rfl 8 (by decide) (va_Nw.use rfl (hK.2.2.1 _ n_260)) (fun _ h9 => h9) rfl dX11_lasts_47 ?_
      refine st_i hx hb hK hP hD hS 2 rfl (by unfold vp_in; decide) dX11_lasts_50 (fun f_7 H locs hP hD hS => ?_)
      have hP : va_P D vwCl [(a 0, .inr (11, [.ref (a 1), .ref (a 2), .ref (a 3), .ref (a 4), .ref (a 5), .ref (a 6), .ref (a 7), .ref (a 8), .ref (a 9), .ref (a 10), .ref (a 11), .ref (a 12), .int 100])), (a 3, .inl (cT, 4, .inr (.inr (.inr (.inr (fun j => if j < 4 then some (a (13 + j)) else none)))))), (a 4, .inl (cI, 26, .inl f_7)), (a 5, .inr (4, [.ref (a 18), .ref (a 19), .ref (a 20), .ref (a 21), .ref (a 22), .ref (a 23), .ref (a 24), .int 0, .int 0, .int 0, .int 1])), (a 15, .inr (9, [.ref (a 61), .ref (a 62), .ref (a 63), .ref (a 64), .ref (a 65), .int 0, .int 0, .int 0, .int 0]))] H := hP
      have hD : va_D A [(a 0, .inr (11, [.ref (a 1), .ref (a 2), .ref (a 3), .ref (a 4), .ref (a 5), .ref (a 6), .ref (a 7), .ref (a 8), .ref (a 9), .ref (a 10), .ref (a 11), .ref (a 12), .int 100])), (a 3, .inl (cT, 4, .inr (.inr (.inr (.inr (fun j => if j < 4 then some (a (13 + j)) else none)))))), (a 4, .inl (cI, 26, .inl f_7)), (a 5, .inr (4, [.ref (a 18), .ref (a 19), .ref (a 20), .ref (a 21), .ref (a 22), .ref (a 23), .ref (a 24), .int 0, .int 0, .int 0, .int 1])), (a 15, .inr (9, [.ref (a 61), .ref (a 62), .ref (a 63), .ref (a 64), .ref (a 65), .int 0, .int 0, .int 0, .int 0]))] := hD
      refine lv_aload_n hx hb dX11_lasts_51 rfl (lv_at hl 0 rfl) ?_
      refine va_get (D := D) (ci := 11) (v := .ref (a 4)) (C := RX11) (T := TX11) (N := 13) hx hb hts inT_X11 hown hK.1 hP 0 rfl rfl 3 (by decide) (hts _ k_486) (fun _ h9 => h9) rfl dX11_lasts_52 ?_
      refine lv_bipush (v := 22) hx hb dX11_lasts_55 (by decide) ?_
      refine lv_iload_n hx hb dX11_lasts_57 rfl (lv_at hl 2 rfl) ?_
      refine st_i hx hb hK hP hD hS 2 rfl (by unfold vp_in; decide) dX11_lasts_58 (fun f_8 H locs hP hD hS => ?_)
      have hP : va_P D vwCl [(a 0, .inr (11, [.ref (a 1), .ref (a 2), .ref (a 3), .ref (a 4), .ref (a 5), .ref (a 6), .ref (a 7), .ref (a 8), .ref (a 9), .ref (a 10), .ref (a 11), .ref (a 12), .int 100])), (a 3, .inl (cT, 4, .inr (.inr (.inr (.inr (fun j => if j < 4 then some (a (13 + j)) else none)))))), (a 4, .inl (cI, 26, .inl f_8)), (a 5, .inr (4, [.ref (a 18), .ref (a 19), .ref (a 20), .ref (a 21), .ref (a 22), .ref (a 23), .ref (a 24), .int 0, .int 0, .int 0, .int 1])), (a 15, .inr (9, [.ref (a 61), .ref (a 62), .ref (a 63), .ref (a 64), .ref (a 65), .int 0, .int 0, .int 0, .int 0]))] H := hP
      have hD : va_D A [(a 0, .inr (11, [.ref (a 1), .ref (a 2), .ref (a 3), .ref (a 4), .ref (a 5), .ref (a 6), .ref (a 7), .ref (a 8), .ref (a 9), .ref (a 10), .ref (a 11), .ref (a 12), .int 100])), (a 3, .inl (cT, 4, .inr (.inr (.inr (.inr (fun j => if j < 4 then some (a (13 + j)) else none)))))), (a 4, .inl (cI, 26, .inl f_8)), (a 5, .inr (4, [.ref (a 18), .ref (a 19), .ref (a 20), .ref (a 21), .ref (a 22), .ref (a 23), .ref (a 24), .int 0, .int 0, .int 0, .int 1])), (a 15, .inr (9, [.ref (a 61), .ref (a 62), .ref (a 63), .ref (a 64), .ref (a 65), .int 0, .int 0, .int 0, .int 0]))] := hD
      refine lv_iload_n hx hb dX11_lasts_59 rfl (lv_at hl 1 rfl) ?_
      refine lv_istore_n (lv' := [(3, .int n1), (0, .ref (a 0)), (1, .int n1), (2, .int n2)]) hx hb dX11_lasts_60 rfl hl (by decide) rfl (fun ls hl => ?_)
      refine lv_iconst (v := 0) hx hb dX11_lasts_61 (by decide) ?_
      refine lv_istore (lv' := [(4, .int 0), (3, .int n1), (0, .ref (a 0)), (1, .int n1), (2, .int n2)]) hx hb dX11_lasts_62 hl (by decide) rfl (fun ls hl => ?_)
      have lp64 : ∀ (k64 : Nat) (j : Nat) (sv : Int32) (y64_a4 : Nat → Int32) (H : Heap) (locs : List Loc) (ls : Array Slot), j ≤ 2000 → 2000 < j + k64 → (0 < sv) → va_P D vwCl [(a 0, .inr (11, [.ref (a 1), .ref (a 2), .ref (a 3), .ref (a 4), .ref (a 5), .ref (a 6), .ref (a 7), .ref (a 8), .ref (a 9), .ref (a 10), .ref (a 11), .ref (a 12), .int 100])), (a 3, .inl (cT, 4, .inr (.inr (.inr (.inr (fun j => if j < 4 then some (a (13 + j)) else none)))))), (a 4, .inl (cI, 26, .inl y64_a4)), (a 5, .inr (4, [.ref (a 18), .ref (a 19), .ref (a 20), .ref (a 21), .ref (a 22), .ref (a 23), .ref (a 24), .int 0, .int 0, .int 0, .int 1])), (a 15, .inr (9, [.ref (a 61), .ref (a 62), .ref (a 63), .ref (a 64), .ref (a 65), .int 0, .int 0, .int 0, .int 0]))] H → va_D A [(a 0, .inr (11, [.ref (a 1), .ref (a 2), .ref (a 3), .ref (a 4), .ref (a 5), .ref (a 6), .ref (a 7), .ref (a 8), .ref (a 9), .ref (a 10), .ref (a 11), .ref (a 12), .int 100])), (a 3, .inl (cT, 4, .inr (.inr (.inr (.inr (fun j => if j < 4 then some (a (13 + j)) else none)))))), (a 4, .inl (cI, 26, .inl y64_a4)), (a 5, .inr (4, [.ref (a 18), .ref (a 19), .ref (a 20), .ref (a 21), .ref (a 22), .ref (a 23), .ref (a 24), .int 0, .int 0, .int 0, .int 1])), (a 15, .inr (9, [.ref (a 61), .ref (a 62), .ref (a 63), .ref (a 64), .ref (a 65), .int 0, .int 0, .int 0, .int 0]))] → va_S A s.heap H locs → lv_has ls 5 [(4, .int (nI j)), (3, .int sv), (0, .ref (a 0)), (1, .int n1), (2, .int n2)] → W p l e (rmX 1 0 0) s m ([.ref (a 0), .int n1, .int n2] : List Value).toArray below meth c H locs 0 0 (MQ below (va_Qi (fun (r : Int32) (_ : Unit) => r = (if (1 ≤ n1 ∧ n1 ≤ 10000) ∧ 0 ≤ n2 ∧ n2 ≤ 100 then -2 else -1)) (fun u => BX D A ((fun _ => []) u)) A) ([.ref (a 0), .int n1, .int n2] : List Value).toArray s 0 0 A) (F0 m 64 ls []) := by
        intro k64
        induction k64 with
        | zero =>
          intro j sv y64_a4 H locs ls hj64 hk64 hsv hP hD hS hl
          exact absurd hk64 (by omega)
        | succ k64 ih64 =>
          intro j sv y64_a4 H locs ls hj64 hk64 hsv hP hD hS hl
          refine lv_iload hx hb dX11_lasts_64 (lv_at hl 0 rfl) ?_
          refine lv_sipush (v := 2000) hx hb dX11_lasts_66 (by decide) ?_
          refine lv_icmp_ge (tgt := 126) hx hb dX11_lasts_69 (by decide) (fun c_9 => ?_) (fun c_9 => ?_)
          · refine lv_bipush (v := (-2)) hx hb dX11_lasts_126 (by decide) ?_
            exact W.iret (v := (-2)) hx hb hr (fun t ht hW => ⟨⟨((-2) : Int32), (), rfl, (lf_X11_lasts_10 a n1 n2 c_2 c_5 j sv y64_a4 k64 hj64 hk64 hsv c_9), bx0⟩, hS.F ht⟩) hS.2.2 dX11_lasts_128 hlocks
          · have hlt64 : j < 2000 := (lf_X11_lasts_11 a n1 n2 c_2 c_5 j sv y64_a4 k64 hj64 hk64 hsv c_9)
            refine lv_aload_n hx hb dX11_lasts_72 rfl (lv_at hl 2 rfl) ?_
            refine va_get (D := D) (ci := 11) (v := .ref (a 4)) (C := RX11) (T := TX11) (N := 13) hx hb hts inT_X11 hown hK.1 hP 0 rfl rfl 3 (by decide) (hts _ k_486) (fun _ h9 => h9) rfl dX11_lasts_73 ?_
            refine lv_bipush (v := 19) hx hb dX11_lasts_76 (by decide) ?_
            refine lv_iload hx hb dX11_lasts_78 (lv_at hl 0 rfl) ?_
            refine st_i hx hb hK hP hD hS 2 rfl (by unfold vp_in; decide) dX11_lasts_80 (fun f_12 H locs hP hD hS => ?_)
            have hP : va_P D vwCl [(a 0, .inr (11, [.ref (a 1), .ref (a 2), .ref (a 3), .ref (a 4), .ref (a 5), .ref (a 6), .ref (a 7), .ref (a 8), .ref (a 9), .ref (a 10), .ref (a 11), .ref (a 12), .int 100])), (a 3, .inl (cT, 4, .inr (.inr (.inr (.inr (fun j => if j < 4 then some (a (13 + j)) else none)))))), (a 4, .inl (cI, 26, .inl f_12)), (a 5, .inr (4, [.ref (a 18), .ref (a 19), .ref (a 20), .ref (a 21), .ref (a 22), .ref (a 23), .ref (a 24), .int 0, .int 0, .int 0, .int 1])), (a 15, .inr (9, [.ref (a 61), .ref (a 62), .ref (a 63), .ref (a 64), .ref (a 65), .int 0, .int 0, .int 0, .int 0]))] H := hP
            have hD : va_D A [(a 0, .inr (11, [.ref (a 1), .ref (a 2), .ref (a 3), .ref (a 4), .ref (a 5), .ref (a 6), .ref (a 7), .ref (a 8), .ref (a 9), .ref (a 10), .ref (a 11), .ref (a 12), .int 100])), (a 3, .inl (cT, 4, .inr (.inr (.inr (.inr (fun j => if j < 4 then some (a (13 + j)) else none)))))), (a 4, .inl (cI, 26, .inl f_12)), (a 5, .inr (4, [.ref (a 18), .ref (a 19), .ref (a 20), .ref (a 21), .ref (a 22), .ref (a 23), .ref (a 24), .int 0, .int 0, .int 0, .int 1])), (a 15, .inr (9, [.ref (a 61), .ref (a 62), .ref (a 63), .ref (a 64), .ref (a 65), .int 0, .int 0, .int 0, .int 0]))] := hD
            refine lv_aload_n hx hb dX11_lasts_81 rfl (lv_at hl 2 rfl) ?_
            refine va_get (D := D) (ci := 11) (v := .ref (a 4)) (C := RX11) (T := TX11) (N := 13) hx hb hts inT_X11 hown hK.1 hP 0 rfl rfl 3 (by decide) (hts _ k_486) (fun _ h9 => h9) rfl dX11_lasts_82 ?_
            refine lv_bipush (v := 21) hx hb dX11_lasts_85 (by decide) ?_
            refine lv_iload_n hx hb dX11_lasts_87 rfl (lv_at hl 1 rfl) ?_
            refine st_i hx hb hK hP hD hS 2 rfl (by unfold vp_in; decide) dX11_lasts_88 (fun f_13 H locs hP hD hS => ?_)
            have hP : va_P D vwCl [(a 0, .inr (11, [.ref (a 1), .ref (a 2), .ref (a 3), .ref (a 4), .ref (a 5), .ref (a 6), .ref (a 7), .ref (a 8), .ref (a 9), .ref (a 10), .ref (a 11), .ref (a 12), .int 100])), (a 3, .inl (cT, 4, .inr (.inr (.inr (.inr (fun j => if j < 4 then some (a (13 + j)) else none)))))), (a 4, .inl (cI, 26, .inl f_13)), (a 5, .inr (4, [.ref (a 18), .ref (a 19), .ref (a 20), .ref (a 21), .ref (a 22), .ref (a 23), .ref (a 24), .int 0, .int 0, .int 0, .int 1])), (a 15, .inr (9, [.ref (a 61), .ref (a 62), .ref (a 63), .ref (a 64), .ref (a 65), .int 0, .int 0, .int 0, .int 0]))] H := hP
            have hD : va_D A [(a 0, .inr (11, [.ref (a 1), .ref (a 2), .ref (a 3), .ref (a 4), .ref (a 5), .ref (a 6), .ref (a 7), .ref (a 8), .ref (a 9), .ref (a 10), .ref (a 11), .ref (a 12), .int 100])), (a 3, .inl (cT, 4, .inr (.inr (.inr (.inr (fun j => if j < 4 then some (a (13 + j)) else none)))))), (a 4, .inl (cI, 26, .inl f_13)), (a 5, .inr (4, [.ref (a 18), .ref (a 19), .ref (a 20), .ref (a 21), .ref (a 22), .ref (a 23), .ref (a 24), .int 0, .int 0, .int 0, .int 1])), (a 15, .inr (9, [.ref (a 61), .ref (a 62), .ref (a 63), .ref (a 64), .ref (a 65), .int 0, .int 0, .int 0, .int 0]))] := hD
            refine lv_iload_n hx hb dX11_lasts_89 rfl (lv_at hl 1 rfl) ?_
            refine lv_aload_n hx hb dX11_lasts_90 rfl (lv_at hl 2 rfl) ?_
            refine va_get (D := D) (ci := 11) (v := .ref (a 3)) (C := RX11) (T := TX11) (N := 13) hx hb hts inT_X11 hown hK.1 hP 0 rfl rfl 2 (by decide) (hts _ k_485) (fun _ h9 => h9) rfl dX11_lasts_91 ?_
            refine lv_iconst (v := 2) hx hb dX11_lasts_94 (by decide) ?_
            refine va_aldq hx hb hK.1 hP 1 4 rfl rfl (by unfold vp_in; decide) dX11_lasts_95 ?_
            refine lv_topr (y := .ref (a 15)) rfl ?_
            refine lv_bipush (v := 101) hx hb dX11_lasts_96 (by decide) ?_
            refine lv_aload_n hx hb dX11_lasts_98 rfl (lv_at hl 2 rfl) ?_
            refine va_get (D := D) (ci := 11) (v := .ref (a 4)) (C := RX11) (T := TX11) (N := 13) hx hb hts inT_X11 hown hK.1 hP 0 rfl rfl 3 (by decide) (hts _ k_486) (fun _ h9 => h9) rfl dX11_lasts_99 ?_
            refine lv_iconst (v := 0) hx hb dX11_lasts_102 (by decide) ?_
            refine lv_sipush (v := 1000) hx hb dX11_lasts_103 (by decide) ?_
            refine eRi (va_runV (As := [.int 101, .ref (a 4), .int 0, .int 1000]) (rest := [.int sv]) ⟨hx, hb, hml, hown, hts⟩ (c_X9_value_2 l D cI cB cZ cJ [(cT, .object "NailStain$Text")] a 101 (a 4) 0 1000 H.size) (zV hts k_1328 v_X9_value ⟨Nat.le_of_ble_eq_true rfl, Nat.le_of_ble_eq_true rfl⟩) (pV (px1 hK hP 4 rfl) hK hP 4 rfl rfl) rfl rfl hl.1 rfl (lv_room (Nat.le_of_ble_eq_true rfl)) dX11_lasts_106 ⟨Nat.le_of_ble_eq_true rfl, Nat.le_of_ble_eq_true rfl⟩) hP hS hA (fun r_14 H locs wr_14 hP hS => ?_)
            subst wr_14
            refine lv_isub hx hb dX11_lasts_109 ?_
            refine lv_topi (fun x_15 ex_15 => ?_)
            refine lv_istore_n (lv' := [(3, .int x_15), (4, .int (nI j)), (0, .ref (a 0)), (1, .int n1), (2, .int n2)]) hx hb dX11_lasts_110 rfl hl (by decide) rfl (fun ls hl => ?_)
            refine lv_iload_n hx hb dX11_lasts_111 rfl (lv_at hl 0 rfl) ?_
            refine lv_if_gt (tgt := 120) hx hb dX11_lasts_112 (by decide) (fun c_16 => ?_) (fun c_16 => absurd (lf_X11_lasts_17 a n1 n2 c_2 c_5 j sv y64_a4 k64 hj64 hk64 hsv c_9 hlt64 x_15 ex_15 c_16) id)
            obtain ⟨x_18, ex_18⟩ : ∃ z : Int32, z = nI j + Int32.ofInt 1 := ⟨_, rfl⟩
            refine lv_iinc (v := x_18) (lv' := [(4, .int x_18), (3, .int x_15), (0, .ref (a 0)), (1, .int n1), (2, .int n2)]) hx hb dX11_lasts_120 hl (k := 1) rfl (ex_18.symm) (by decide) rfl (fun ls hl => ?_)
            refine lv_goto (tgt := 64) hx hb dX11_lasts_123 (by decide) ?_
            have ej_19 : x_18 = nI (j + 1) := ex_18.trans (nI_1 j)
            rw [ej_19] at hl
            exact ih64 (j + 1) x_15 f_13 H locs ls (by omega) (by omega) (lf_X11_lasts_20 a n1 n2 c_2 c_5 j sv y64_a4 k64 hj64 hk64 hsv c_9 hlt64 x_15 ex_15 c_16 x_18 ex_18 ej_19) (hP.sub [0, 1, 2, 3, 4] rfl) (hD.sub [0, 1, 2, 3, 4] (by decide) rfl) hS (lv_sub hl [0, 1, 2, 3, 4] rfl)
      exact lp64 (2000 + 1) 0 n1 f_8 H locs ls (by omega) (by omega) (lf_X11_lasts_21 a n1 n2 c_2 c_5) (hP.sub [0, 1, 2, 3, 4] rfl) (hD.sub [0, 1, 2, 3, 4] (by decide) rfl) hS (lv_sub hl [0, 1, 2, 3, 4] rfl)
    · refine lv_iconst (v := (-1)) hx hb dX11_lasts_21 (by decide) ?_
      exact W.iret (v := (-1)) hx hb hr (fun t ht hW => ⟨⟨((-1) : Int32), (), rfl, (lf_X11_lasts_22 a n1 n2 c_2 c_5), bx0⟩, hS.F ht⟩) hS.2.2 dX11_lasts_22 hlocks

theorem lf_X12_tells_0_1 (h : Nat) (q : Nat → Nat) (i : Nat → Int32) (n1 : Int32) (n2 : Int32) (n3 : Int32) : (0 : Int32) = 0 := by
  first | rfl | assumption | (simp_all; done) | grind
set_option maxHeartbeats 4000000 in
set_option maxRecDepth 100000 in
theorem c_X12_tells_0 (l : Launch) (D : va_G) (cI cB cZ cJ : ClassId) (tx : List (ClassId × FieldType)) (h : Nat) (q : Nat → Nat) (i : Nat → Int32) (n1 : Int32) (n2 : Int32) (n3 : Int32) : RdI l D cI cB cZ cJ tx yX12_tells cX12_tells 7 (some .int) 0 [.ref h, .int 0, .int n1, .int n2, .int n3] [(h, .inr (12, mG q i)), (q 6, .inl (cI, 3, .inl (fun _ => 0)))] (fun r => r = 0) := by
  refine rdi_of2 (by decide) (Nat.le_of_ble_eq_true rfl) ?_
  intro p e s m below meth c A ls H locs hC hK hP hA hS hl
  obtain ⟨hx, hb, hr, hml, hown, hts, hlocks, hin⟩ := hC
  have hown : s.vm.findClass RX12 = some m.cls := hown
  have hl : lv_has ls 7 [(0, .ref h), (1, .int 0), (2, .int n1), (3, .int n2), (4, .int n3)] := hl
  refine lv_bipush (v := 14) hx hb dX12_tells_0 (by decide) ?_
  refine lv_iload_n hx hb dX12_tells_2 rfl (lv_at hl 1 rfl) ?_
  refine lv_imul hx hb dX12_tells_3 ?_
  refine lv_topv (y := 0) (by decide) ?_
  refine lv_istore (lv' := [(5, .int 0), (0, .ref h), (1, .int 0), (2, .int n1), (3, .int n2), (4, .int n3)]) hx hb dX12_tells_4 hl (by decide) rfl (fun ls hl => ?_)
  refine lv_iload hx hb dX12_tells_6 (lv_at hl 0 rfl) ?_
  refine lv_bipush (v := 14) hx hb dX12_tells_8 (by decide) ?_
  refine lv_iload_n hx hb dX12_tells_10 rfl (lv_at hl 2 rfl) ?_
  refine lv_imul hx hb dX12_tells_11 ?_
  refine lv_topv (y := 0) (by decide) ?_
  refine lv_aload_n hx hb dX12_tells_12 rfl (lv_at hl 1 rfl) ?_
  refine va_get (D := D) (ci := 12) (v := .ref (q 6)) (C := RX12) (T := TX12) (N := 81) hx hb hts inT_X12 hown hK.1 hP 0 rfl rfl 6 (by decide) (hts _ k_1359) (fun _ h9 => h9) rfl dX12_tells_13 ?_
  refine lv_iload_n hx hb dX12_tells_16 rfl (lv_at hl 2 rfl) ?_
  refine l0_i hx hb hK hP 1 rfl (by unfold vp_in; decide) dX12_tells_17 ?_
  refine lv_iadd hx hb dX12_tells_18 ?_
  refine lv_topv (y := 0) (by decide) ?_
  refine lv_icmp_ge (tgt := 146) hx hb dX12_tells_19 (by decide) (fun _ => ?_) (fun c => absurd c (by decide))
  refine lv_iconst (v := 0) hx hb dX12_tells_146 (by decide) ?_
  exact W.iret (v := 0) hx hb hr (fun t ht hW => ⟨⟨(0 : Int32), (), rfl, (lf_X12_tells_0_1 h q i n1 n2 n3), trivial⟩, hS.F ht⟩) hS.2.2 dX12_tells_147 hlocks

theorem lf_X12_tells_2_1 (h : Nat) (q : Nat → Nat) (i : Nat → Int32) (n1 : Int32) (n2 : Int32) (n3 : Int32) : (0 : Int32) = 0 := by
  first | rfl | assumption | (simp_all; done) | grind
set_option maxHeartbeats 4000000 in
set_option maxRecDepth 100000 in
theorem c_X12_tells_2 (l : Launch) (D : va_G) (cI cB cZ cJ : ClassId) (tx : List (ClassId × FieldType)) (h : Nat) (q : Nat → Nat) (i : Nat → Int32) (n1 : Int32) (n2 : Int32) (n3 : Int32) : RdI l D cI cB cZ cJ tx yX12_tells cX12_tells 7 (some .int) 0 [.ref h, .int 2, .int n1, .int n2, .int n3] [(h, .inr (12, mG q i)), (q 6, .inl (cI, 3, .inl (fun _ => 0)))] (fun r => r = 0) := by
  refine rdi_of2 (by decide) (Nat.le_of_ble_eq_true rfl) ?_
  intro p e s m below meth c A ls H locs hC hK hP hA hS hl
  obtain ⟨hx, hb, hr, hml, hown, hts, hlocks, hin⟩ := hC
  have hown : s.vm.findClass RX12 = some m.cls := hown
  have hl : lv_has ls 7 [(0, .ref h), (1, .int 2), (2, .int n1), (3, .int n2), (4, .int n3)] := hl
  refine lv_bipush (v := 14) hx hb dX12_tells_0 (by decide) ?_
  refine lv_iload_n hx hb dX12_tells_2 rfl (lv_at hl 1 rfl) ?_
  refine lv_imul hx hb dX12_tells_3 ?_
  refine lv_topv (y := 28) (by decide) ?_
  refine lv_istore (lv' := [(5, .int 28), (0, .ref h), (1, .int 2), (2, .int n1), (3, .int n2), (4, .int n3)]) hx hb dX12_tells_4 hl (by decide) rfl (fun ls hl => ?_)
  refine lv_iload hx hb dX12_tells_6 (lv_at hl 0 rfl) ?_
  refine lv_bipush (v := 14) hx hb dX12_tells_8 (by decide) ?_
  refine lv_iload_n hx hb dX12_tells_10 rfl (lv_at hl 2 rfl) ?_
  refine lv_imul hx hb dX12_tells_11 ?_
  refine lv_topv (y := 28) (by decide) ?_
  refine lv_aload_n hx hb dX12_tells_12 rfl (lv_at hl 1 rfl) ?_
  refine va_get (D := D) (ci := 12) (v := .ref (q 6)) (C := RX12) (T := TX12) (N := 81) hx hb hts inT_X12 hown hK.1 hP 0 rfl rfl 6 (by decide) (hts _ k_1359) (fun _ h9 => h9) rfl dX12_tells_13 ?_
  refine lv_iload_n hx hb dX12_tells_16 rfl (lv_at hl 2 rfl) ?_
  refine l0_i hx hb hK hP 1 rfl (by unfold vp_in; decide) dX12_tells_17 ?_
  refine lv_iadd hx hb dX12_tells_18 ?_
  refine lv_topv (y := 28) (by decide) ?_
  refine lv_icmp_ge (tgt := 146) hx hb dX12_tells_19 (by decide) (fun _ => ?_) (fun c => absurd c (by decide))
  refine lv_iconst (v := 0) hx hb dX12_tells_146 (by decide) ?_
  exact W.iret (v := 0) hx hb hr (fun t ht hW => ⟨⟨(0 : Int32), (), rfl, (lf_X12_tells_2_1 h q i n1 n2 n3), trivial⟩, hS.F ht⟩) hS.2.2 dX12_tells_147 hlocks

set_option maxHeartbeats 4000000 in
set_option maxRecDepth 100000 in
theorem c_X12_clears (l : Launch) (D : va_G) (cI cB cZ cJ : ClassId) (tx : List (ClassId × FieldType)) (h : Nat) (q : Nat → Nat) (i : Nat → Int32) (v2 : Int32) (v3 : Int32) (h2 : i 2 = v2) (h3 : i 3 = v3) : WrV l D cI cB cZ cJ tx yX12_clears cX12_clears 1 none 0 0 0 [.ref h] [(h, .inr (12, mG q i))] (fun (u : Nat → Int32) => u 2 = v2 ∧ u 3 = v3) (fun u => [(h, .inr (12, mG q u))]) := by
  refine wrv_of2 (by decide) (Nat.le_of_ble_eq_true rfl) ?_
  intro p e s m below meth c A ls H locs hC hK hP hD hA hS hl
  obtain ⟨hx, hb, hr, hml, hown, hts, hlocks, hin⟩ := hC
  have hown : s.vm.findClass RX12 = some m.cls := hown
  have hl : lv_has ls 1 [(0, .ref h)] := hl
  refine lv_aload_n hx hb dX12_clears_0 rfl (lv_at hl 0 rfl) ?_
  refine lv_iconst (v := 0) hx hb dX12_clears_1 (by decide) ?_
  refine va_put (D := D) (ci := 12) (v := .int 0) (ty := .int) (C := RX12) (T := TX12) (N := 81) hx hb hts inT_X12 tyX12 tyX12_ok nmX12 hown hK.1 hP hD hS 0 rfl rfl 29 (by decide) (hts _ k_1382) (fun _ h9 => h9) rfl (by decide +kernel) rfl rfl (Nat.le_of_ble_eq_true rfl) dX12_clears_2 (fun H locs hP hD hS => ?_)
  obtain ⟨i_1, ei_1⟩ : ∃ z : Nat → Int32, z = upd i 29 0 := ⟨_, rfl⟩
  have hi_1_2 : i_1 2 = v2 := by rw [ei_1]; exact h2
  have hi_1_3 : i_1 3 = v3 := by rw [ei_1]; exact h3
  have hi_1_29 : i_1 29 = 0 := by rw [ei_1]; rfl
  have hP : va_P D vwCl [(h, .inr (12, mG q i_1))] H := by rw [ei_1, ← mG_29]; exact hP
  have hD : va_D A [(h, .inr (12, mG q i_1))] := by rw [ei_1, ← mG_29]; exact hD
  refine lv_aload_n hx hb dX12_clears_5 rfl (lv_at hl 0 rfl) ?_
  refine lv_iconst (v := 0) hx hb dX12_clears_6 (by decide) ?_
  refine va_put (D := D) (ci := 12) (v := .int 0) (ty := .int) (C := RX12) (T := TX12) (N := 81) hx hb hts inT_X12 tyX12 tyX12_ok nmX12 hown hK.1 hP hD hS 0 rfl rfl 30 (by decide) (hts _ k_1383) (fun _ h9 => h9) rfl (by decide +kernel) rfl rfl (Nat.le_of_ble_eq_true rfl) dX12_clears_7 (fun H locs hP hD hS => ?_)
  obtain ⟨i_2, ei_2⟩ : ∃ z : Nat → Int32, z = upd i_1 30 0 := ⟨_, rfl⟩
  have hi_2_2 : i_2 2 = v2 := by rw [ei_2]; exact hi_1_2
  have hi_2_3 : i_2 3 = v3 := by rw [ei_2]; exact hi_1_3
  have hi_2_29 : i_2 29 = 0 := by rw [ei_2]; exact hi_1_29
  have hi_2_30 : i_2 30 = 0 := by rw [ei_2]; rfl
  have hP : va_P D vwCl [(h, .inr (12, mG q i_2))] H := by rw [ei_2, ← mG_30]; exact hP
  have hD : va_D A [(h, .inr (12, mG q i_2))] := by rw [ei_2, ← mG_30]; exact hD
  refine lv_aload_n hx hb dX12_clears_10 rfl (lv_at hl 0 rfl) ?_
  refine lv_iconst (v := 0) hx hb dX12_clears_11 (by decide) ?_
  refine va_put (D := D) (ci := 12) (v := .int 0) (ty := .int) (C := RX12) (T := TX12) (N := 81) hx hb hts inT_X12 tyX12 tyX12_ok nmX12 hown hK.1 hP hD hS 0 rfl rfl 31 (by decide) (hts _ k_1384) (fun _ h9 => h9) rfl (by decide +kernel) rfl rfl (Nat.le_of_ble_eq_true rfl) dX12_clears_12 (fun H locs hP hD hS => ?_)
  obtain ⟨i_3, ei_3⟩ : ∃ z : Nat → Int32, z = upd i_2 31 0 := ⟨_, rfl⟩
  have hi_3_2 : i_3 2 = v2 := by rw [ei_3]; exact hi_2_2
  have hi_3_3 : i_3 3 = v3 := by rw [ei_3]; exact hi_2_3
  have hi_3_29 : i_3 29 = 0 := by rw [ei_3]; exact hi_2_29
  have hi_3_30 : i_3 30 = 0 := by rw [ei_3]; exact hi_2_30
  have hi_3_31 : i_3 31 = 0 := by rw [ei_3]; rfl
  have hP : va_P D vwCl [(h, .inr (12, mG q i_3))] H := by rw [ei_3, ← mG_31]; exact hP
  have hD : va_D A [(h, .inr (12, mG q i_3))] := by rw [ei_3, ← mG_31]; exact hD
  refine lv_aload_n hx hb dX12_clears_15 rfl (lv_at hl 0 rfl) ?_
  refine lv_iconst (v := 0) hx hb dX12_clears_16 (by decide) ?_
  refine va_put (D := D) (ci := 12) (v := .int 0) (ty := .int) (C := RX12) (T := TX12) (N := 81) hx hb hts inT_X12 tyX12 tyX12_ok nmX12 hown hK.1 hP hD hS 0 rfl rfl 32 (by decide) (hts _ k_1385) (fun _ h9 => h9) rfl (by decide +kernel) rfl rfl (Nat.le_of_ble_eq_true rfl) dX12_clears_17 (fun H locs hP hD hS => ?_)
  obtain ⟨i_4, ei_4⟩ : ∃ z : Nat → Int32, z = upd i_3 32 0 := ⟨_, rfl⟩
  have hi_4_2 : i_4 2 = v2 := by rw [ei_4]; exact hi_3_2
  have hi_4_3 : i_4 3 = v3 := by rw [ei_4]; exact hi_3_3
  have hi_4_29 : i_4 29 = 0 := by rw [ei_4]; exact hi_3_29
  have hi_4_30 : i_4 30 = 0 := by rw [ei_4]; exact hi_3_30
  have hi_4_31 : i_4 31 = 0 := by rw [ei_4]; exact hi_3_31
  have hi_4_32 : i_4 32 = 0 := by rw [ei_4]; rfl
  have hP : va_P D vwCl [(h, .inr (12, mG q i_4))] H := by rw [ei_4, ← mG_32]; exact hP
  have hD : va_D A [(h, .inr (12, mG q i_4))] := by rw [ei_4, ← mG_32]; exact hD
  refine lv_aload_n hx hb dX12_clears_20 rfl (lv_at hl 0 rfl) ?_
  refine lv_iconst (v := 0) hx hb dX12_clears_21 (by decide) ?_
  refine va_put (D := D) (ci := 12) (v := .int 0) (ty := .int) (C := RX12) (T := TX12) (N := 81) hx hb hts inT_X12 tyX12 tyX12_ok nmX12 hown hK.1 hP hD hS 0 rfl rfl 33 (by decide) (hts _ k_1386) (fun _ h9 => h9) rfl (by decide +kernel) rfl rfl (Nat.le_of_ble_eq_true rfl) dX12_clears_22 (fun H locs hP hD hS => ?_)
  obtain ⟨i_5, ei_5⟩ : ∃ z : Nat → Int32, z = upd i_4 33 0 := ⟨_, rfl⟩
  have hi_5_2 : i_5 2 = v2 := by rw [ei_5]; exact hi_4_2
  have hi_5_3 : i_5 3 = v3 := by rw [ei_5]; exact hi_4_3
  have hi_5_29 : i_5 29 = 0 := by rw [ei_5]; exact hi_4_29
  have hi_5_30 : i_5 30 = 0 := by rw [ei_5]; exact hi_4_30
  have hi_5_31 : i_5 31 = 0 := by rw [ei_5]; exact hi_4_31
  have hi_5_32 : i_5 32 = 0 := by rw [ei_5]; exact hi_4_32
  have hi_5_33 : i_5 33 = 0 := by rw [ei_5]; rfl
  have hP : va_P D vwCl [(h, .inr (12, mG q i_5))] H := by rw [ei_5, ← mG_33]; exact hP
  have hD : va_D A [(h, .inr (12, mG q i_5))] := by rw [ei_5, ← mG_33]; exact hD
  refine lv_aload_n hx hb dX12_clears_25 rfl (lv_at hl 0 rfl) ?_
  refine lv_iconst (v := 0) hx hb dX12_clears_26 (by decide) ?_
  refine va_put (D := D) (ci := 12) (v := .int 0) (ty := .int) (C := RX12) (T := TX12) (N := 81) hx hb hts inT_X12 tyX12 tyX12_ok nmX12 hown hK.1 hP hD hS 0 rfl rfl 34 (by decide) (hts _ k_1387) (fun _ h9 => h9) rfl (by decide +kernel) rfl rfl (Nat.le_of_ble_eq_true rfl) dX12_clears_27 (fun H locs hP hD hS => ?_)
  obtain ⟨i_6, ei_6⟩ : ∃ z : Nat → Int32, z = upd i_5 34 0 := ⟨_, rfl⟩
  have hi_6_2 : i_6 2 = v2 := by rw [ei_6]; exact hi_5_2
  have hi_6_3 : i_6 3 = v3 := by rw [ei_6]; exact hi_5_3
  have hi_6_29 : i_6 29 = 0 := by rw [ei_6]; exact hi_5_29
  have hi_6_30 : i_6 30 = 0 := by rw [ei_6]; exact hi_5_30
  have hi_6_31 : i_6 31 = 0 := by rw [ei_6]; exact hi_5_31
  have hi_6_32 : i_6 32 = 0 := by rw [ei_6]; exact hi_5_32
  have hi_6_33 : i_6 33 = 0 := by rw [ei_6]; exact hi_5_33
  have hi_6_34 : i_6 34 = 0 := by rw [ei_6]; rfl
  have hP : va_P D vwCl [(h, .inr (12, mG q i_6))] H := by rw [ei_6, ← mG_34]; exact hP
  have hD : va_D A [(h, .inr (12, mG q i_6))] := by rw [ei_6, ← mG_34]; exact hD
  refine lv_aload_n hx hb dX12_clears_30 rfl (lv_at hl 0 rfl) ?_
  refine lv_iconst (v := 0) hx hb dX12_clears_31 (by decide) ?_
  refine va_put (D := D) (ci := 12) (v := .int 0) (ty := .int) (C := RX12) (T := TX12) (N := 81) hx hb hts inT_X12 tyX12 tyX12_ok nmX12 hown hK.1 hP hD hS 0 rfl rfl 35 (by decide) (hts _ k_1388) (fun _ h9 => h9) rfl (by decide +kernel) rfl rfl (Nat.le_of_ble_eq_true rfl) dX12_clears_32 (fun H locs hP hD hS => ?_)
  obtain ⟨i_7, ei_7⟩ : ∃ z : Nat → Int32, z = upd i_6 35 0 := ⟨_, rfl⟩
  have hi_7_2 : i_7 2 = v2 := by rw [ei_7]; exact hi_6_2
  have hi_7_3 : i_7 3 = v3 := by rw [ei_7]; exact hi_6_3
  have hi_7_29 : i_7 29 = 0 := by rw [ei_7]; exact hi_6_29
  have hi_7_30 : i_7 30 = 0 := by rw [ei_7]; exact hi_6_30
  have hi_7_31 : i_7 31 = 0 := by rw [ei_7]; exact hi_6_31
  have hi_7_32 : i_7 32 = 0 := by rw [ei_7]; exact hi_6_32
  have hi_7_33 : i_7 33 = 0 := by rw [ei_7]; exact hi_6_33
  have hi_7_34 : i_7 34 = 0 := by rw [ei_7]; exact hi_6_34
  have hi_7_35 : i_7 35 = 0 := by rw [ei_7]; rfl
  have hP : va_P D vwCl [(h, .inr (12, mG q i_7))] H := by rw [ei_7, ← mG_35]; exact hP
  have hD : va_D A [(h, .inr (12, mG q i_7))] := by rw [ei_7, ← mG_35]; exact hD
  refine lv_aload_n hx hb dX12_clears_35 rfl (lv_at hl 0 rfl) ?_
  refine lv_iconst (v := 0) hx hb dX12_clears_36 (by decide) ?_
  refine va_put (D := D) (ci := 12) (v := .int 0) (ty := .int) (C := RX12) (T := TX12) (N := 81) hx hb hts inT_X12 tyX12 tyX12_ok nmX12 hown hK.1 hP hD hS 0 rfl rfl 36 (by decide) (hts _ k_1389) (fun _ h9 => h9) rfl (by decide +kernel) rfl rfl (Nat.le_of_ble_eq_true rfl) dX12_clears_37 (fun H locs hP hD hS => ?_)
  obtain ⟨i_8, ei_8⟩ : ∃ z : Nat → Int32, z = upd i_7 36 0 := ⟨_, rfl⟩
  have hi_8_2 : i_8 2 = v2 := by rw [ei_8]; exact hi_7_2
  have hi_8_3 : i_8 3 = v3 := by rw [ei_8]; exact hi_7_3
  have hi_8_29 : i_8 29 = 0 := by rw [ei_8]; exact hi_7_29
  have hi_8_30 : i_8 30 = 0 := by rw [ei_8]; exact hi_7_30
  have hi_8_31 : i_8 31 = 0 := by rw [ei_8]; exact hi_7_31
  have hi_8_32 : i_8 32 = 0 := by rw [ei_8]; exact hi_7_32
  have hi_8_33 : i_8 33 = 0 := by rw [ei_8]; exact hi_7_33
  have hi_8_34 : i_8 34 = 0 := by rw [ei_8]; exact hi_7_34
  have hi_8_35 : i_8 35 = 0 := by rw [ei_8]; exact hi_7_35
  have hi_8_36 : i_8 36 = 0 := by rw [ei_8]; rfl
  have hP : va_P D vwCl [(h, .inr (12, mG q i_8))] H := by rw [ei_8, ← mG_36]; exact hP
  have hD : va_D A [(h, .inr (12, mG q i_8))] := by rw [ei_8, ← mG_36]; exact hD
  refine lv_aload_n hx hb dX12_clears_40 rfl (lv_at hl 0 rfl) ?_
  refine lv_iconst (v := 0) hx hb dX12_clears_41 (by decide) ?_
  refine va_put (D := D) (ci := 12) (v := .int 0) (ty := .int) (C := RX12) (T := TX12) (N := 81) hx hb hts inT_X12 tyX12 tyX12_ok nmX12 hown hK.1 hP hD hS 0 rfl rfl 37 (by decide) (hts _ k_1390) (fun _ h9 => h9) rfl (by decide +kernel) rfl rfl (Nat.le_of_ble_eq_true rfl) dX12_clears_42 (fun H locs hP hD hS => ?_)
  obtain ⟨i_9, ei_9⟩ : ∃ z : Nat → Int32, z = upd i_8 37 0 := ⟨_, rfl⟩
  have hi_9_2 : i_9 2 = v2 := by rw [ei_9]; exact hi_8_2
  have hi_9_3 : i_9 3 = v3 := by rw [ei_9]; exact hi_8_3
  have hi_9_29 : i_9 29 = 0 := by rw [ei_9]; exact hi_8_29
  have hi_9_30 : i_9 30 = 0 := by rw [ei_9]; exact hi_8_30
  have hi_9_31 : i_9 31 = 0 := by rw [ei_9]; exact hi_8_31
  have hi_9_32 : i_9 32 = 0 := by rw [ei_9]; exact hi_8_32
  have hi_9_33 : i_9 33 = 0 := by rw [ei_9]; exact hi_8_33
  have hi_9_34 : i_9 34 = 0 := by rw [ei_9]; exact hi_8_34
  have hi_9_35 : i_9 35 = 0 := by rw [ei_9]; exact hi_8_35
  have hi_9_36 : i_9 36 = 0 := by rw [ei_9]; exact hi_8_36
  have hi_9_37 : i_9 37 = 0 := by rw [ei_9]; rfl
  have hP : va_P D vwCl [(h, .inr (12, mG q i_9))] H := by rw [ei_9, ← mG_37]; exact hP
  have hD : va_D A [(h, .inr (12, mG q i_9))] := by rw [ei_9, ← mG_37]; exact hD
  refine lv_aload_n hx hb dX12_clears_45 rfl (lv_at hl 0 rfl) ?_
  refine lv_iconst (v := 0) hx hb dX12_clears_46 (by decide) ?_
  refine va_put (D := D) (ci := 12) (v := .int 0) (ty := .int) (C := RX12) (T := TX12) (N := 81) hx hb hts inT_X12 tyX12 tyX12_ok nmX12 hown hK.1 hP hD hS 0 rfl rfl 38 (by decide) (hts _ k_1391) (fun _ h9 => h9) rfl (by decide +kernel) rfl rfl (Nat.le_of_ble_eq_true rfl) dX12_clears_47 (fun H locs hP hD hS => ?_)
  obtain ⟨i_10, ei_10⟩ : ∃ z : Nat → Int32, z = upd i_9 38 0 := ⟨_, rfl⟩
  have hi_10_2 : i_10 2 = v2 := by rw [ei_10]; exact hi_9_2
  have hi_10_3 : i_10 3 = v3 := by rw [ei_10]; exact hi_9_3
  have hi_10_29 : i_10 29 = 0 := by rw [ei_10]; exact hi_9_29
  have hi_10_30 : i_10 30 = 0 := by rw [ei_10]; exact hi_9_30
  have hi_10_31 : i_10 31 = 0 := by rw [ei_10]; exact hi_9_31
  have hi_10_32 : i_10 32 = 0 := by rw [ei_10]; exact hi_9_32
  have hi_10_33 : i_10 33 = 0 := by rw [ei_10]; exact hi_9_33
  have hi_10_34 : i_10 34 = 0 := by rw [ei_10]; exact hi_9_34
  have hi_10_35 : i_10 35 = 0 := by rw [ei_10]; exact hi_9_35
  have hi_10_36 : i_10 36 = 0 := by rw [ei_10]; exact hi_9_36
  have hi_10_37 : i_10 37 = 0 := by rw [ei_10]; exact hi_9_37
  have hi_10_38 : i_10 38 = 0 := by rw [ei_10]; rfl
  have hP : va_P D vwCl [(h, .inr (12, mG q i_10))] H := by rw [ei_10, ← mG_38]; exact hP
  have hD : va_D A [(h, .inr (12, mG q i_10))] := by rw [ei_10, ← mG_38]; exact hD
  refine lv_aload_n hx hb dX12_clears_50 rfl (lv_at hl 0 rfl) ?_
  refine lv_iconst (v := 0) hx hb dX12_clears_51 (by decide) ?_
  refine va_put (D := D) (ci := 12) (v := .int 0) (ty := .int) (C := RX12) (T := TX12) (N := 81) hx hb hts inT_X12 tyX12 tyX12_ok nmX12 hown hK.1 hP hD hS 0 rfl rfl 39 (by decide) (hts _ k_1392) (fun _ h9 => h9) rfl (by decide +kernel) rfl rfl (Nat.le_of_ble_eq_true rfl) dX12_clears_52 (fun H locs hP hD hS => ?_)
  obtain ⟨i_11, ei_11⟩ : ∃ z : Nat → Int32, z = upd i_10 39 0 := ⟨_, rfl⟩
  have hi_11_2 : i_11 2 = v2 := by rw [ei_11]; exact hi_10_2
  have hi_11_3 : i_11 3 = v3 := by rw [ei_11]; exact hi_10_3
  have hi_11_29 : i_11 29 = 0 := by rw [ei_11]; exact hi_10_29
  have hi_11_30 : i_11 30 = 0 := by rw [ei_11]; exact hi_10_30
  have hi_11_31 : i_11 31 = 0 := by rw [ei_11]; exact hi_10_31
  have hi_11_32 : i_11 32 = 0 := by rw [ei_11]; exact hi_10_32
  have hi_11_33 : i_11 33 = 0 := by rw [ei_11]; exact hi_10_33
  have hi_11_34 : i_11 34 = 0 := by rw [ei_11]; exact hi_10_34
  have hi_11_35 : i_11 35 = 0 := by rw [ei_11]; exact hi_10_35
  have hi_11_36 : i_11 36 = 0 := by rw [ei_11]; exact hi_10_36
  have hi_11_37 : i_11 37 = 0 := by rw [ei_11]; exact hi_10_37
  have hi_11_38 : i_11 38 = 0 := by rw [ei_11]; exact hi_10_38
  have hi_11_39 : i_11 39 = 0 := by rw [ei_11]; rfl
  have hP : va_P D vwCl [(h, .inr (12, mG q i_11))] H := by rw [ei_11, ← mG_39]; exact hP
  have hD : va_D A [(h, .inr (12, mG q i_11))] := by rw [ei_11, ← mG_39]; exact hD
  refine lv_aload_n hx hb dX12_clears_55 rfl (lv_at hl 0 rfl) ?_
  refine lv_iconst (v := 0) hx hb dX12_clears_56 (by decide) ?_
  refine va_put (D := D) (ci := 12) (v := .int 0) (ty := .int) (C := RX12) (T := TX12) (N := 81) hx hb hts inT_X12 tyX12 tyX12_ok nmX12 hown hK.1 hP hD hS 0 rfl rfl 40 (by decide) (hts _ k_1393) (fun _ h9 => h9) rfl (by decide +kernel) rfl rfl (Nat.le_of_ble_eq_true rfl) dX12_clears_57 (fun H locs hP hD hS => ?_)
  obtain ⟨i_12, ei_12⟩ : ∃ z : Nat → Int32, z = upd i_11 40 0 := ⟨_, rfl⟩
  have hi_12_2 : i_12 2 = v2 := by rw [ei_12]; exact hi_11_2
  have hi_12_3 : i_12 3 = v3 := by rw [ei_12]; exact hi_11_3
  have hi_12_29 : i_12 29 = 0 := by rw [ei_12]; exact hi_11_29
  have hi_12_30 : i_12 30 = 0 := by rw [ei_12]; exact hi_11_30
  have hi_12_31 : i_12 31 = 0 := by rw [ei_12]; exact hi_11_31
  have hi_12_32 : i_12 32 = 0 := by rw [ei_12]; exact hi_11_32
  have hi_12_33 : i_12 33 = 0 := by rw [ei_12]; exact hi_11_33
  have hi_12_34 : i_12 34 = 0 := by rw [ei_12]; exact hi_11_34
  have hi_12_35 : i_12 35 = 0 := by rw [ei_12]; exact hi_11_35
  have hi_12_36 : i_12 36 = 0 := by rw [ei_12]; exact hi_11_36
  have hi_12_37 : i_12 37 = 0 := by rw [ei_12]; exact hi_11_37
  have hi_12_38 : i_12 38 = 0 := by rw [ei_12]; exact hi_11_38
  have hi_12_39 : i_12 39 = 0 := by rw [ei_12]; exact hi_11_39
  have hi_12_40 : i_12 40 = 0 := by rw [ei_12]; rfl
  have hP : va_P D vwCl [(h, .inr (12, mG q i_12))] H := by rw [ei_12, ← mG_40]; exact hP
  have hD : va_D A [(h, .inr (12, mG q i_12))] := by rw [ei_12, ← mG_40]; exact hD
  refine lv_aload_n hx hb dX12_clears_60 rfl (lv_at hl 0 rfl) ?_
  refine lv_iconst (v := 0) hx hb dX12_clears_61 (by decide) ?_
  refine va_put (D := D) (ci := 12) (v := .int 0) (ty := .int) (C := RX12) (T := TX12) (N := 81) hx hb hts inT_X12 tyX12 tyX12_ok nmX12 hown hK.1 hP hD hS 0 rfl rfl 41 (by decide) (hts _ k_1394) (fun _ h9 => h9) rfl (by decide +kernel) rfl rfl (Nat.le_of_ble_eq_true rfl) dX12_clears_62 (fun H locs hP hD hS => ?_)
  obtain ⟨i_13, ei_13⟩ : ∃ z : Nat → Int32, z = upd i_12 41 0 := ⟨_, rfl⟩
  have hi_13_2 : i_13 2 = v2 := by rw [ei_13]; exact hi_12_2
  have hi_13_3 : i_13 3 = v3 := by rw [ei_13]; exact hi_12_3
  have hi_13_29 : i_13 29 = 0 := by rw [ei_13]; exact hi_12_29
  have hi_13_30 : i_13 30 = 0 := by rw [ei_13]; exact hi_12_30
  have hi_13_31 : i_13 31 = 0 := by rw [ei_13]; exact hi_12_31
  have hi_13_32 : i_13 32 = 0 := by rw [ei_13]; exact hi_12_32
  have hi_13_33 : i_13 33 = 0 := by rw [ei_13]; exact hi_12_33
  have hi_13_34 : i_13 34 = 0 := by rw [ei_13]; exact hi_12_34
  have hi_13_35 : i_13 35 = 0 := by rw [ei_13]; exact hi_12_35
  have hi_13_36 : i_13 36 = 0 := by rw [ei_13]; exact hi_12_36
  have hi_13_37 : i_13 37 = 0 := by rw [ei_13]; exact hi_12_37
  have hi_13_38 : i_13 38 = 0 := by rw [ei_13]; exact hi_12_38
  have hi_13_39 : i_13 39 = 0 := by rw [ei_13]; exact hi_12_39
  have hi_13_40 : i_13 40 = 0 := by rw [ei_13]; exact hi_12_40
  have hi_13_41 : i_13 41 = 0 := by rw [ei_13]; rfl
  have hP : va_P D vwCl [(h, .inr (12, mG q i_13))] H := by rw [ei_13, ← mG_41]; exact hP
  have hD : va_D A [(h, .inr (12, mG q i_13))] := by rw [ei_13, ← mG_41]; exact hD
  exact W.vret hx hb hr (fun t ht hW => ⟨⟨i_13, rfl, ⟨hi_13_2, hi_13_3⟩, ⟨by rw [ht]; exact hP, hD⟩⟩, hS.F ht⟩) hS.2.2 dX12_clears_65 hlocks

theorem lf_X12_lasts_3 (h : Nat) (q : Nat → Nat) (i : Nat → Int32) (n1 : Int32) (n2 : Int32) (h2 : i 2 = 0) (h3 : i 3 = 0) (c_2 : ¬ ((1 : Int32) ≤ n1 ∧ n1 ≤ 10000)) : ((-1) : Int32) = (if (1 ≤ n1 ∧ n1 ≤ 10000) ∧ 0 ≤ n2 ∧ n2 ≤ 100 then -2 else -1) := by
  first | (rw [if_pos ⟨by assumption, by assumption⟩]; done) | (rw [if_neg (by grind)]; done)
theorem lf_X12_lasts_7 (h : Nat) (q : Nat → Nat) (i : Nat → Int32) (n1 : Int32) (n2 : Int32) (h2 : i 2 = 0) (h3 : i 3 = 0) (c_2 : (1 : Int32) ≤ n1 ∧ n1 ≤ 10000) (c_5 : (0 : Int32) ≤ n2 ∧ n2 ≤ 100) (j : Nat) (sv : Int32) (i31 : Nat → Int32) (k31 : Nat) (hj31 : j ≤ 2000) (hk31 : 2000 < j + (k31 + 1)) (hi31_2 : i31 2 = 0) (hi31_3 : i31 3 = 0) (hsv : 0 < sv) (c_6 : 2000 ≤ nI j) : ((-2) : Int32) = (if (1 ≤ n1 ∧ n1 ≤ 10000) ∧ 0 ≤ n2 ∧ n2 ≤ 100 then -2 else -1) := by
  first | (rw [if_pos ⟨by assumption, by assumption⟩]; done) | (rw [if_neg (by grind)]; done)
theorem lf_X12_lasts_8 (h : Nat) (q : Nat → Nat) (i : Nat → Int32) (n1 : Int32) (n2 : Int32) (h2 : i 2 = 0) (h3 : i 3 = 0) (c_2 : (1 : Int32) ≤ n1 ∧ n1 ≤ 10000) (c_5 : (0 : Int32) ≤ n2 ∧ n2 ≤ 100) (j : Nat) (sv : Int32) (i31 : Nat → Int32) (k31 : Nat) (hj31 : j ≤ 2000) (hk31 : 2000 < j + (k31 + 1)) (hi31_2 : i31 2 = 0) (hi31_3 : i31 3 = 0) (hsv : 0 < sv) (c_6 : ¬ 2000 ≤ nI j) : j < 2000 := by
  rcases Nat.lt_or_ge j 2000 with q | q
  · exact q
  · exact absurd (nI_le q (by omega)) (by assumption)
theorem lf_X12_lasts_17 (h : Nat) (q : Nat → Nat) (i : Nat → Int32) (n1 : Int32) (n2 : Int32) (h2 : i 2 = 0) (h3 : i 3 = 0) (c_2 : (1 : Int32) ≤ n1 ∧ n1 ≤ 10000) (c_5 : (0 : Int32) ≤ n2 ∧ n2 ≤ 100) (j : Nat) (sv : Int32) (i31 : Nat → Int32) (k31 : Nat) (hj31 : j ≤ 2000) (hk31 : 2000 < j + (k31 + 1)) (hi31_2 : i31 2 = 0) (hi31_3 : i31 3 = 0) (hsv : 0 < sv) (c_6 : ¬ 2000 ≤ nI j) (hlt31 : j < 2000) (i_11 : Nat → Int32) (i_12 : Nat → Int32) (i_13 : Nat → Int32) (x_15 : Int32) (ex_15 : x_15 = sv - 0) (c_16 : ¬ 0 < x_15) : False := by
  subst_vars; simp only [Int32.sub_zero] at *; contradiction
theorem lf_X12_lasts_20 (h : Nat) (q : Nat → Nat) (i : Nat → Int32) (n1 : Int32) (n2 : Int32) (h2 : i 2 = 0) (h3 : i 3 = 0) (c_2 : (1 : Int32) ≤ n1 ∧ n1 ≤ 10000) (c_5 : (0 : Int32) ≤ n2 ∧ n2 ≤ 100) (j : Nat) (sv : Int32) (i31 : Nat → Int32) (k31 : Nat) (hj31 : j ≤ 2000) (hk31 : 2000 < j + (k31 + 1)) (hi31_2 : i31 2 = 0) (hi31_3 : i31 3 = 0) (hsv : 0 < sv) (c_6 : ¬ 2000 ≤ nI j) (hlt31 : j < 2000) (i_11 : Nat → Int32) (i_12 : Nat → Int32) (i_13 : Nat → Int32) (x_15 : Int32) (ex_15 : x_15 = sv - 0) (c_16 : 0 < x_15) (x_18 : Int32) (ex_18 : x_18 = nI j + Int32.ofInt 1) (ej_19 : x_18 = nI (j + 1)) : 0 < x_15 := by
  first | assumption | (exact pos_of (by assumption))
theorem lf_X12_lasts_21 (h : Nat) (q : Nat → Nat) (i : Nat → Int32) (n1 : Int32) (n2 : Int32) (h2 : i 2 = 0) (h3 : i 3 = 0) (c_2 : (1 : Int32) ≤ n1 ∧ n1 ≤ 10000) (c_5 : (0 : Int32) ≤ n2 ∧ n2 ≤ 100) : 0 < n1 := by
  first | assumption | (exact pos_of (by assumption))
theorem lf_X12_lasts_22 (h : Nat) (q : Nat → Nat) (i : Nat → Int32) (n1 : Int32) (n2 : Int32) (h2 : i 2 = 0) (h3 : i 3 = 0) (c_2 : (1 : Int32) ≤ n1 ∧ n1 ≤ 10000) (c_5 : ¬ ((0 : Int32) ≤ n2 ∧ n2 ≤ 100)) : ((-1) : Int32) = (if (1 ≤ n1 ∧ n1 ≤ 10000) ∧ 0 ≤ n2 ∧ n2 ≤ 100 then -2 else -1) := by
  first | (rw [if_pos ⟨by assumption, by assumption⟩]; done) | (rw [if_neg (by grind)]; done)
set_option maxHeartbeats 4000000 in
set_option maxRecDepth 100000 in
theorem c_X12_lasts (l : Launch) (D : va_G) (cI cB cZ cJ : ClassId) (tx : List (ClassId × FieldType)) (h : Nat) (q : Nat → Nat) (i : Nat → Int32) (n1 : Int32) (n2 : Int32) (h2 : i 2 = 0) (h3 : i 3 = 0) : WrI l D cI cB cZ cJ tx yX12_lasts cX12_lasts 5 (some .int) 1 0 0 [.ref h, .int n1, .int n2] [(h, .inr (12, mG q i)), (q 6, .inl (cI, 3, .inl (fun _ => 0)))] (fun (r : Int32) (_ : Unit) => r = (if (1 ≤ n1 ∧ n1 ≤ 10000) ∧ 0 ≤ n2 ∧ n2 ≤ 100 then -2 else -1)) (fun _ => []) := by
  refine wri_of2 (by decide) (Nat.le_of_ble_eq_true rfl) ?_
  intro p e s m below meth c A ls H locs hC hK hP hD hA hS hl
  obtain ⟨hx, hb, hr, hml, hown, hts, hlocks, hin⟩ := hC
  have hown : s.vm.findClass RX12 = some m.cls := hown
  have hl : lv_has ls 5 [(0, .ref h), (1, .int n1), (2, .int n2)] := hl
  refine lv_iload_n hx hb dX12_lasts_0 rfl (lv_at hl 1 rfl) ?_
  refine lv_i2l (v := n1.toInt64) hx hb dX12_lasts_1 rfl ?_
  refine lv_lconst (v := 1) hx hb dX12_lasts_2 (by decide) ?_
  refine lv_ldc2 (v := 10000) hx hb hown (hts _ k_2115) dX12_lasts_3 ?_
  refine eRi (va_runS (As := [.long n1.toInt64, .long 1, .long 10000]) (rest := []) ⟨hx, hb, hml, hown, hts⟩ (c_X12_isIn l D cI cB cZ cJ tx n1.toInt64 1 10000 H.size) (zS hts k_1602 v_X12_isIn ⟨Nat.le_of_ble_eq_true rfl, Nat.le_of_ble_eq_true rfl⟩) (px0 hK) rfl rfl hl.1 rfl (lv_room (Nat.le_of_ble_eq_true rfl)) dX12_lasts_6 ⟨Nat.le_of_ble_eq_true rfl, Nat.le_of_ble_eq_true rfl⟩) hP hS hA (fun r_1 H locs wr_1 hP hS => ?_)
  have wr_1 : r_1 = bi ((1 : Int32) ≤ n1 ∧ n1 ≤ 10000) := isIn32 (lo := 1) (hi := 10000) (by decide) (by decide) wr_1
  subst wr_1
  refine lv_bi_eq (tgt := 24) hx hb dX12_lasts_9 (by decide) (fun c_2 => ?_) (fun c_2 => ?_)
  · refine lv_iconst (v := (-1)) hx hb dX12_lasts_24 (by decide) ?_
    exact W.iret (v := (-1)) hx hb hr (fun t ht hW => ⟨⟨((-1) : Int32), (), rfl, (lf_X12_lasts_3 h q i n1 n2 h2 h3 c_2), bx0⟩, hS.F ht⟩) hS.2.2 dX12_lasts_25 hlocks
  · refine lv_iload_n hx hb dX12_lasts_12 rfl (lv_at hl 2 rfl) ?_
    refine lv_i2l (v := n2.toInt64) hx hb dX12_lasts_13 rfl ?_
    refine lv_lconst (v := 0) hx hb dX12_lasts_14 (by decide) ?_
    refine lv_ldc2 (v := 100) hx hb hown (hts _ k_2116) dX12_lasts_15 ?_
    refine eRi (va_runS (As := [.long n2.toInt64, .long 0, .long 100]) (rest := []) ⟨hx, hb, hml, hown, hts⟩ (c_X12_isIn l D cI cB cZ cJ tx n2.toInt64 0 100 H.size) (zS hts k_1602 v_X12_isIn ⟨Nat.le_of_ble_eq_true rfl, Nat.le_of_ble_eq_true rfl⟩) (px0 hK) rfl rfl hl.1 rfl (lv_room (Nat.le_of_ble_eq_true rfl)) dX12_lasts_18 ⟨Nat.le_of_ble_eq_true rfl, Nat.le_of_ble_eq_true rfl⟩) hP hS hA (fun r_4 H locs wr_4 hP hS => ?_)
    have wr_4 : r_4 = bi ((0 : Int32) ≤ n2 ∧ n2 ≤ 100) := isIn32 (lo := 0) (hi := 100) (by decide) (by decide) wr_4
    subst wr_4
    refine lv_bi_ne (tgt := 26) hx hb dX12_lasts_21 (by decide) (fun c_5 => ?_) (fun c_5 => ?_)
    · refine lv_iload_n hx hb dX12_lasts_26 rfl (lv_at hl 1 rfl) ?_
      refine lv_istore_n (lv' := [(3, .int n1), (0, .ref h), (1, .int n1), (2, .int n2)]) hx hb dX12_lasts_27 rfl hl (by decide) rfl (fun ls hl => ?_)
      refine lv_iconst (v := 0) hx hb dX12_lasts_28 (by decide) ?_
      refine lv_istore (lv' := [(4, .int 0), (3, .int n1), (0, .ref h), (1, .int n1), (2, .int n2)]) hx hb dX12_lasts_29 hl (by decide) rfl (fun ls hl => ?_)
      have lp31 : ∀ (k31 : Nat) (j : Nat) (sv : Int32) (i31 : Nat → Int32) (H : Heap) (locs : List Loc) (ls : Array Slot), j ≤ 2000 → 2000 < j + k31 → (i31 2 = 0) → (i31 3 = 0) → (0 < sv) → va_P D vwCl [(h, .inr (12, mG q i31)), (q 6, .inl (cI, 3, .inl (fun _ => 0)))] H → va_D A [(h, .inr (12, mG q i31)), (q 6, .inl (cI, 3, .inl (fun _ => 0)))] → va_S A s.heap H locs → lv_has ls 5 [(4, .int (nI j)), (3, .int sv), (0, .ref h), (1, .int n1), (2, .int n2)] → W p l e (rmX 1 0 0) s m ([.ref h, .int n1, .int n2] : List Value).toArray below meth c H locs 0 0 (MQ below (va_Qi (fun (r : Int32) (_ : Unit) => r = (if (1 ≤ n1 ∧ n1 ≤ 10000) ∧ 0 ≤ n2 ∧ n2 ≤ 100 then -2 else -1)) (fun u => BX D A ((fun _ => []) u)) A) ([.ref h, .int n1, .int n2] : List Value).toArray s 0 0 A) (F0 m 31 ls []) := by
        intro k31
        induction k31 with
        | zero =>
          intro j sv i31 H locs ls hj31 hk31 hi31_2 hi31_3 hsv hP hD hS hl
          exact absurd hk31 (by omega)
        | succ k31 ih31 =>
          intro j sv i31 H locs ls hj31 hk31 hi31_2 hi31_3 hsv hP hD hS hl
          refine lv_iload hx hb dX12_lasts_31 (lv_at hl 0 rfl) ?_
          refine lv_sipush (v := 2000) hx hb dX12_lasts_33 (by decide) ?_
          refine lv_icmp_ge (tgt := 88) hx hb dX12_lasts_36 (by decide) (fun c_6 => ?_) (fun c_6 => ?_)
          · refine lv_bipush (v := (-2)) hx hb dX12_lasts_88 (by decide) ?_
            exact W.iret (v := (-2)) hx hb hr (fun t ht hW => ⟨⟨((-2) : Int32), (), rfl, (lf_X12_lasts_7 h q i n1 n2 h2 h3 c_2 c_5 j sv i31 k31 hj31 hk31 hi31_2 hi31_3 hsv c_6), bx0⟩, hS.F ht⟩) hS.2.2 dX12_lasts_90 hlocks
          · have hlt31 : j < 2000 := (lf_X12_lasts_8 h q i n1 n2 h2 h3 c_2 c_5 j sv i31 k31 hj31 hk31 hi31_2 hi31_3 hsv c_6)
            refine lv_aload_n hx hb dX12_lasts_39 rfl (lv_at hl 2 rfl) ?_
            refine eWv (wr := [(q 6, .inl (cI, 3, .inl (fun _ => 0)))]) (va_runV (As := []) (rest := []) ⟨hx, hb, hml, hown, hts⟩ (c_X12_clears l D cI cB cZ cJ tx h q i31 0 0 hi31_2 hi31_3 H.size) (zV hts k_1742 v_X12_clears ⟨Nat.le_of_ble_eq_true rfl, Nat.le_of_ble_eq_true rfl⟩) (pV (pxS hK hP hD [0] (by decide) rfl) hK hP 0 rfl rfl) rfl rfl hl.1 rfl (lv_room (Nat.le_of_ble_eq_true rfl)) dX12_lasts_40 ⟨Nat.le_of_ble_eq_true rfl, Nat.le_of_ble_eq_true rfl⟩) hP hD hS hA [0] [1] rfl rfl (by decide) (by decide) (fun u_10 H locs wr_9 hP hD hS => ?_)
            have hz_u_10 := wr_9
            have hP : va_P D vwCl [(q 6, .inl (cI, 3, .inl (fun _ => 0))), (h, .inr (12, mG q u_10))] H := hP
            have hD : va_D A [(q 6, .inl (cI, 3, .inl (fun _ => 0))), (h, .inr (12, mG q u_10))] := hD
            refine lv_aload_n hx hb dX12_lasts_43 rfl (lv_at hl 2 rfl) ?_
            refine lv_iload hx hb dX12_lasts_44 (lv_at hl 0 rfl) ?_
            refine va_put (D := D) (ci := 12) (v := .int (nI j)) (ty := .int) (C := RX12) (T := TX12) (N := 81) hx hb hts inT_X12 tyX12 tyX12_ok nmX12 hown hK.1 hP hD hS 1 rfl rfl 39 (by decide) (hts _ k_1392) (fun _ h9 => h9) rfl (by decide +kernel) rfl rfl (Nat.le_of_ble_eq_true rfl) dX12_lasts_46 (fun H locs hP hD hS => ?_)
            obtain ⟨i_11, ei_11⟩ : ∃ z : Nat → Int32, z = upd u_10 39 (nI j) := ⟨_, rfl⟩
            have hi_11_2 : i_11 2 = 0 := by rw [ei_11]; exact hz_u_10.1
            have hi_11_3 : i_11 3 = 0 := by rw [ei_11]; exact hz_u_10.2
            have hi_11_39 : i_11 39 = nI j := by rw [ei_11]; rfl
            have hP : va_P D vwCl [(q 6, .inl (cI, 3, .inl (fun _ => 0))), (h, .inr (12, mG q i_11))] H := by rw [ei_11, ← mG_39]; exact hP
            have hD : va_D A [(q 6, .inl (cI, 3, .inl (fun _ => 0))), (h, .inr (12, mG q i_11))] := by rw [ei_11, ← mG_39]; exact hD
            refine lv_aload_n hx hb dX12_lasts_49 rfl (lv_at hl 2 rfl) ?_
            refine lv_iload_n hx hb dX12_lasts_50 rfl (lv_at hl 1 rfl) ?_
            refine va_put (D := D) (ci := 12) (v := .int sv) (ty := .int) (C := RX12) (T := TX12) (N := 81) hx hb hts inT_X12 tyX12 tyX12_ok nmX12 hown hK.1 hP hD hS 1 rfl rfl 40 (by decide) (hts _ k_1393) (fun _ h9 => h9) rfl (by decide +kernel) rfl rfl (Nat.le_of_ble_eq_true rfl) dX12_lasts_51 (fun H locs hP hD hS => ?_)
            obtain ⟨i_12, ei_12⟩ : ∃ z : Nat → Int32, z = upd i_11 40 sv := ⟨_, rfl⟩
            have hi_12_2 : i_12 2 = 0 := by rw [ei_12]; exact hi_11_2
            have hi_12_3 : i_12 3 = 0 := by rw [ei_12]; exact hi_11_3
            have hi_12_39 : i_12 39 = nI j := by rw [ei_12]; exact hi_11_39
            have hi_12_40 : i_12 40 = sv := by rw [ei_12]; rfl
            have hP : va_P D vwCl [(q 6, .inl (cI, 3, .inl (fun _ => 0))), (h, .inr (12, mG q i_12))] H := by rw [ei_12, ← mG_40]; exact hP
            have hD : va_D A [(q 6, .inl (cI, 3, .inl (fun _ => 0))), (h, .inr (12, mG q i_12))] := by rw [ei_12, ← mG_40]; exact hD
            refine lv_aload_n hx hb dX12_lasts_54 rfl (lv_at hl 2 rfl) ?_
            refine lv_iload_n hx hb dX12_lasts_55 rfl (lv_at hl 4 rfl) ?_
            refine va_put (D := D) (ci := 12) (v := .int n2) (ty := .int) (C := RX12) (T := TX12) (N := 81) hx hb hts inT_X12 tyX12 tyX12_ok nmX12 hown hK.1 hP hD hS 1 rfl rfl 41 (by decide) (hts _ k_1394) (fun _ h9 => h9) rfl (by decide +kernel) rfl rfl (Nat.le_of_ble_eq_true rfl) dX12_lasts_56 (fun H locs hP hD hS => ?_)
            obtain ⟨i_13, ei_13⟩ : ∃ z : Nat → Int32, z = upd i_12 41 n2 := ⟨_, rfl⟩
            have hi_13_2 : i_13 2 = 0 := by rw [ei_13]; exact hi_12_2
            have hi_13_3 : i_13 3 = 0 := by rw [ei_13]; exact hi_12_3
            have hi_13_39 : i_13 39 = nI j := by rw [ei_13]; exact hi_12_39
            have hi_13_40 : i_13 40 = sv := by rw [ei_13]; exact hi_12_40
            have hi_13_41 : i_13 41 = n2 := by rw [ei_13]; rfl
            have hP : va_P D vwCl [(q 6, .inl (cI, 3, .inl (fun _ => 0))), (h, .inr (12, mG q i_13))] H := by rw [ei_13, ← mG_41]; exact hP
            have hD : va_D A [(q 6, .inl (cI, 3, .inl (fun _ => 0))), (h, .inr (12, mG q i_13))] := by rw [ei_13, ← mG_41]; exact hD
            refine lv_iload_n hx hb dX12_lasts_59 rfl (lv_at hl 1 rfl) ?_
            refine lv_aload_n hx hb dX12_lasts_60 rfl (lv_at hl 2 rfl) ?_
            refine lv_iconst (v := 2) hx hb dX12_lasts_61 (by decide) ?_
            refine lv_bipush (v := 101) hx hb dX12_lasts_62 (by decide) ?_
            refine lv_iconst (v := 0) hx hb dX12_lasts_64 (by decide) ?_
            refine lv_sipush (v := 1000) hx hb dX12_lasts_65 (by decide) ?_
            refine eRi (va_runV (As := [.int 2, .int 101, .int 0, .int 1000]) (rest := [.int sv]) ⟨hx, hb, hml, hown, hts⟩ (c_X12_tells_2 l D cI cB cZ cJ tx h q i_13 101 0 1000 H.size) (zV hts k_1746 v_X12_tells ⟨Nat.le_of_ble_eq_true rfl, Nat.le_of_ble_eq_true rfl⟩) (pV (pxS hK hP hD [1, 0] (by decide) rfl) hK hP 1 rfl rfl) rfl rfl hl.1 rfl (lv_room (Nat.le_of_ble_eq_true rfl)) dX12_lasts_68 ⟨Nat.le_of_ble_eq_true rfl, Nat.le_of_ble_eq_true rfl⟩) hP hS hA (fun r_14 H locs wr_14 hP hS => ?_)
            subst wr_14
            refine lv_isub hx hb dX12_lasts_71 ?_
            refine lv_topi (fun x_15 ex_15 => ?_)
            refine lv_istore_n (lv' := [(3, .int x_15), (4, .int (nI j)), (0, .ref h), (1, .int n1), (2, .int n2)]) hx hb dX12_lasts_72 rfl hl (by decide) rfl (fun ls hl => ?_)
            refine lv_iload_n hx hb dX12_lasts_73 rfl (lv_at hl 0 rfl) ?_
            refine lv_if_gt (tgt := 82) hx hb dX12_lasts_74 (by decide) (fun c_16 => ?_) (fun c_16 => absurd (lf_X12_lasts_17 h q i n1 n2 h2 h3 c_2 c_5 j sv i31 k31 hj31 hk31 hi31_2 hi31_3 hsv c_6 hlt31 i_11 i_12 i_13 x_15 ex_15 c_16) id)
            obtain ⟨x_18, ex_18⟩ : ∃ z : Int32, z = nI j + Int32.ofInt 1 := ⟨_, rfl⟩
            refine lv_iinc (v := x_18) (lv' := [(4, .int x_18), (3, .int x_15), (0, .ref h), (1, .int n1), (2, .int n2)]) hx hb dX12_lasts_82 hl (k := 1) rfl (ex_18.symm) (by decide) rfl (fun ls hl => ?_)
            refine lv_goto (tgt := 31) hx hb dX12_lasts_85 (by decide) ?_
            have ej_19 : x_18 = nI (j + 1) := ex_18.trans (nI_1 j)
            rw [ej_19] at hl
            exact ih31 (j + 1) x_15 i_13 H locs ls (by omega) (by omega) hi_13_2 hi_13_3 (lf_X12_lasts_20 h q i n1 n2 h2 h3 c_2 c_5 j sv i31 k31 hj31 hk31 hi31_2 hi31_3 hsv c_6 hlt31 i_11 i_12 i_13 x_15 ex_15 c_16 x_18 ex_18 ej_19) (hP.sub [1, 0] rfl) (hD.sub [1, 0] (by decide) rfl) hS (lv_sub hl [0, 1, 2, 3, 4] rfl)
      exact lp31 (2000 + 1) 0 n1 i H locs ls (by omega) (by omega) h2 h3 (lf_X12_lasts_21 h q i n1 n2 h2 h3 c_2 c_5) (hP.sub [0, 1] rfl) (hD.sub [0, 1] (by decide) rfl) hS (lv_sub hl [0, 1, 2, 3, 4] rfl)
    · refine lv_iconst (v := (-1)) hx hb dX12_lasts_24 (by decide) ?_
      exact W.iret (v := (-1)) hx hb hr (fun t ht hW => ⟨⟨((-1) : Int32), (), rfl, (lf_X12_lasts_22 h q i n1 n2 h2 h3 c_2 c_5), bx0⟩, hS.F ht⟩) hS.2.2 dX12_lasts_25 hlocks
