theorem lf_X10_tell_2 (a : Nat → Nat) (ot : Nat → Int32) (x1 : Nat) (x2 : Nat) (n3 : Int32) (hx1 : x1 < 24) (hx2 : x2 < 2) : vp_in (nI ((x1 * 2) + x2)) 48 := by
  first | exact vp_in_nI (by omega) (by decide) | (unfold vp_in; decide)
set_option maxHeartbeats 4000000 in
set_option maxRecDepth 100000 in
theorem c_X10_tell (l : Launch) (D : va_G) (cI cB cZ cJ : ClassId) (tx : List (ClassId × FieldType)) (a : Nat → Nat) (ot : Nat → Int32) (x1 : Nat) (x2 : Nat) (n3 : Int32) (hx1 : x1 < 24) (hx2 : x2 < 2) : WrV l D cI cB cZ cJ tx yX10_tell cX10_tell 4 none 0 0 0 [.ref (a 10), .int (nI x1), .int (nI x2), .int n3] [(a 10, .inr (10, [.ref (a 5), .ref (a 46)])), (a 46, .inl (cI, 48, .inl ot))] (fun (v : (Nat → Int32)) => True) (fun v => [(a 10, .inr (10, [.ref (a 5), .ref (a 46)])), (a 46, .inl (cI, 48, .inl v))]) := by
  refine wrv_of2 (by decide) (Nat.le_of_ble_eq_true rfl) ?_
  intro p e s m below meth c A ls H locs hC hK hP hD hA hS hl
  obtain ⟨hx, hb, hr, hml, hown, hts, hlocks, hin⟩ := hC
  have hown : s.vm.findClass RX10 = some m.cls := hown
  have hl : lv_has ls 4 [(0, .ref (a 10)), (1, .int (nI x1)), (2, .int (nI x2)), (3, .int n3)] := hl
  refine lv_aload_n hx hb dX10_tell_0 rfl (lv_at hl 0 rfl) ?_
  refine va_get (D := D) (ci := 10) (v := .ref (a 46)) (C := RX10) (T := TX10) (N := 2) hx hb hts inT_X10 hown hK.1 hP 0 rfl rfl 1 (by decide) (hts _ k_429) (fun _ h9 => h9) rfl dX10_tell_1 ?_
  refine lv_iload_n hx hb dX10_tell_4 rfl (lv_at hl 1 rfl) ?_
  refine lv_iconst (v := 2) hx hb dX10_tell_5 (by decide) ?_
  refine lv_imul hx hb dX10_tell_6 ?_
  refine lv_topv (y := nI (x1 * 2)) (pk_mul x1 2) ?_
  refine lv_iload_n hx hb dX10_tell_7 rfl (lv_at hl 2 rfl) ?_
  refine lv_iadd hx hb dX10_tell_8 ?_
  refine lv_topv (y := nI ((x1 * 2) + x2)) (nI_add (x1 * 2) x2) ?_
  refine lv_iload_n hx hb dX10_tell_9 rfl (lv_at hl 3 rfl) ?_
  refine st_i hx hb hK hP hD hS 1 rfl (lf_X10_tell_2 a ot x1 x2 n3 hx1 hx2) dX10_tell_10 (fun f_1 H locs hP hD hS => ?_)
  have hP : va_P D vwCl [(a 10, .inr (10, [.ref (a 5), .ref (a 46)])), (a 46, .inl (cI, 48, .inl f_1))] H := hP
  have hD : va_D A [(a 10, .inr (10, [.ref (a 5), .ref (a 46)])), (a 46, .inl (cI, 48, .inl f_1))] := hD
  exact W.vret hx hb hr (fun tt9 ht hW => ⟨⟨((f_1 : Nat → Int32)), rfl, trivial, ⟨by rw [ht]; exact hP, hD⟩⟩, hS.F ht⟩) hS.2.2 dX10_tell_11 hlocks

theorem lf_X10_fall_1 (a : Nat → Nat) (ot : Nat → Int32) : 48 < 2 ^ 31 := by
  first | assumption | omega | decide
set_option maxHeartbeats 4000000 in
set_option maxRecDepth 100000 in
theorem c_X10_fall (l : Launch) (D : va_G) (cI cB cZ cJ : ClassId) (tx : List (ClassId × FieldType)) (a : Nat → Nat) (ot : Nat → Int32) : WrV l D cI cB cZ cJ tx yX10_fall cX10_fall 1 none 1 0 0 [.ref (a 10)] [(a 10, .inr (10, [.ref (a 5), .ref (a 46)])), (a 46, .inl (cI, 48, .inl ot))] (fun (v : (Nat → Int32)) => True) (fun v => [(a 10, .inr (10, [.ref (a 5), .ref (a 46)])), (a 46, .inl (cI, 48, .inl v))]) := by
  refine wrv_of2 (by decide) (Nat.le_of_ble_eq_true rfl) ?_
  intro p e s m below meth c A ls H locs hC hK hP hD hA hS hl
  obtain ⟨hx, hb, hr, hml, hown, hts, hlocks, hin⟩ := hC
  have hown : s.vm.findClass RX10 = some m.cls := hown
  have hl : lv_has ls 1 [(0, .ref (a 10))] := hl
  refine lv_aload_n hx hb dX10_fall_0 rfl (lv_at hl 0 rfl) ?_
  refine va_get (D := D) (ci := 10) (v := .ref (a 46)) (C := RX10) (T := TX10) (N := 2) hx hb hts inT_X10 hown hK.1 hP 0 rfl rfl 1 (by decide) (hts _ k_429) (fun _ h9 => h9) rfl dX10_fall_1 ?_
  refine lv_iconst (v := (-1)) hx hb dX10_fall_4 (by decide) ?_
  refine eWv (wr := [(a 10, .inr (10, [.ref (a 5), .ref (a 46)]))]) (va_runS (As := [.ref (a 46), .int (-1)]) (rest := []) ⟨hx, hb, hml, hown, hts⟩ (c_J7_fill l D cI cB cZ cJ tx (a 46) 48 ot (-1) (lf_X10_fall_1 a ot) H.size) (zS hts k_761 v_J7_fill_53178 ⟨Nat.le_of_ble_eq_true rfl, Nat.le_of_ble_eq_true rfl⟩) (pxS hK hP hD [1] (by decide) rfl) rfl rfl hl.1 rfl (lv_room (Nat.le_of_ble_eq_true rfl)) dX10_fall_5 ⟨Nat.le_of_ble_eq_true rfl, Nat.le_of_ble_eq_true rfl⟩) hP hD hS hA [1] [0] rfl rfl (by decide) (by decide) (fun u_3 H locs wr_2 hP hD hS => ?_)
  have hP : va_P D vwCl [(a 10, .inr (10, [.ref (a 5), .ref (a 46)])), (a 46, .inl (cI, 48, .inl u_3))] H := hP
  have hD : va_D A [(a 10, .inr (10, [.ref (a 5), .ref (a 46)])), (a 46, .inl (cI, 48, .inl u_3))] := hD
  exact W.vret hx hb hr (fun tt9 ht hW => ⟨⟨((u_3 : Nat → Int32)), rfl, trivial, ⟨by rw [ht]; exact hP, hD⟩⟩, hS.F ht⟩) hS.2.2 dX10_fall_8 hlocks

theorem lf_X10_at_3 (a : Nat → Nat) (sn : Nat) (sk : Nat) (scu : Int32) (sch : Int32) (ot : Nat → Int32) (x1 : Nat) (x2 : Nat) (hx1 : x1 < 24) (hx2 : x2 < 2) (r_1 : Int32) (c_2 : r_1 = 0) : vp_in (nI ((x1 * 2) + x2)) 48 := by
  first | exact vp_in_nI (by omega) (by decide) | (unfold vp_in; decide)
set_option maxHeartbeats 4000000 in
set_option maxRecDepth 100000 in
theorem c_X10_at (l : Launch) (D : va_G) (cI cB cZ cJ : ClassId) (tx : List (ClassId × FieldType)) (a : Nat → Nat) (sn : Nat) (sk : Nat) (scu : Int32) (sch : Int32) (ot : Nat → Int32) (x1 : Nat) (x2 : Nat) (hx1 : x1 < 24) (hx2 : x2 < 2) : RdI l D cI cB cZ cJ tx yX10_at cX10_at 3 (some .int) 1 [.ref (a 10), .int (nI x1), .int (nI x2)] [(a 10, .inr (10, [.ref (a 5), .ref (a 46)])), (a 5, .inr (4, [.ref (a 18), .ref (a 19), .ref (a 20), .ref (a 21), .ref (a 22), .ref (a 23), .ref (a 24), .int (nI sn), .int (nI sk), .int scu, .int sch])), (a 46, .inl (cI, 48, .inl ot))] (fun r => True) := by
  refine rdi_of2 (by decide) (Nat.le_of_ble_eq_true rfl) ?_
  intro p e s m below meth c A ls H locs hC hK hP hD hA hS hl
  obtain ⟨hx, hb, hr, hml, hown, hts, hlocks, hin⟩ := hC
  have hown : s.vm.findClass RX10 = some m.cls := hown
  have hl : lv_has ls 3 [(0, .ref (a 10)), (1, .int (nI x1)), (2, .int (nI x2))] := hl
  refine lv_aload_n hx hb dX10_at_0 rfl (lv_at hl 0 rfl) ?_
  refine va_get (D := D) (ci := 10) (v := .ref (a 5)) (C := RX10) (T := TX10) (N := 2) hx hb hts inT_X10 hown hK.1 hP 0 rfl rfl 0 (by decide) (hts _ k_428) (fun _ h9 => h9) rfl dX10_at_1 ?_
  refine lv_iload_n hx hb dX10_at_4 rfl (lv_at hl 1 rfl) ?_
  refine eRi (va_runV (As := [.int (nI x1)]) (rest := []) ⟨hx, hb, hml, hown, hts⟩ (c_X4_isCut l D cI cB cZ cJ tx a sn sk scu sch (nI x1) H.size) (zV hts k_1133 v_X4_isCut ⟨Nat.le_of_ble_eq_true rfl, Nat.le_of_ble_eq_true rfl⟩) (pV (px1 hK hP 1 rfl) hK hP 1 rfl rfl) rfl rfl hl.1 rfl (lv_room (Nat.le_of_ble_eq_true rfl)) dX10_at_5 ⟨Nat.le_of_ble_eq_true rfl, Nat.le_of_ble_eq_true rfl⟩) hP hS hA (fun r_1 H locs wr_1 hP hS => ?_)
  refine lv_if_eq (tgt := 15) hx hb dX10_at_8 (by decide) (fun c_2 => ?_) (fun c_2 => ?_)
  · refine lv_aload_n hx hb dX10_at_15 rfl (lv_at hl 0 rfl) ?_
    refine va_get (D := D) (ci := 10) (v := .ref (a 46)) (C := RX10) (T := TX10) (N := 2) hx hb hts inT_X10 hown hK.1 hP 0 rfl rfl 1 (by decide) (hts _ k_429) (fun _ h9 => h9) rfl dX10_at_16 ?_
    refine lv_iload_n hx hb dX10_at_19 rfl (lv_at hl 1 rfl) ?_
    refine lv_iconst (v := 2) hx hb dX10_at_20 (by decide) ?_
    refine lv_imul hx hb dX10_at_21 ?_
    refine lv_topv (y := nI (x1 * 2)) (pk_mul x1 2) ?_
    refine lv_iload_n hx hb dX10_at_22 rfl (lv_at hl 2 rfl) ?_
    refine lv_iadd hx hb dX10_at_23 ?_
    refine lv_topv (y := nI ((x1 * 2) + x2)) (nI_add (x1 * 2) x2) ?_
    refine ld_i hx hb hK hP 2 rfl (lf_X10_at_3 a sn sk scu sch ot x1 x2 hx1 hx2 r_1 c_2) dX10_at_24 (fun x_4 => ?_)
    exact W.iret (v := x_4) hx hb hr (fun tt9 ht hW => ⟨⟨(x_4 : Int32), (), rfl, trivial, trivial⟩, hS.F ht⟩) hS.2.2 dX10_at_25 hlocks
  · refine lv_iconst (v := (-1)) hx hb dX10_at_11 (by decide) ?_
    refine lv_goto (tgt := 25) hx hb dX10_at_12 (by decide) ?_
    exact W.iret (v := (-1)) hx hb hr (fun tt9 ht hW => ⟨⟨((-1) : Int32), (), rfl, trivial, trivial⟩, hS.F ht⟩) hS.2.2 dX10_at_25 hlocks

theorem lf_X10_pairsWithout_3 (a : Nat → Nat) (sn : Nat) (sk : Nat) (scu : Int32) (sch : Int32) (ot : Nat → Int32) (n1 : Int32) (n2 : Int32) (hsn : sn ≤ 24) (hsk : sk ≤ 8) (j1 : Nat) (w1 : Int32) (k5 : Nat) (hj5 : j1 ≤ sn) (hk5 : sn < j1 + (k5 + 1)) (c_1 : nI sn ≤ nI j1) : sn ≤ j1 := by
  exact (nI_leI (a := sn) (b := j1) (by omega) (by omega)).mp c_1
theorem lf_X10_pairsWithout_5 (a : Nat → Nat) (sn : Nat) (sk : Nat) (scu : Int32) (sch : Int32) (ot : Nat → Int32) (n1 : Int32) (n2 : Int32) (hsn : sn ≤ 24) (hsk : sk ≤ 8) (j1 : Nat) (w1 : Int32) (k5 : Nat) (hj5 : j1 ≤ sn) (hk5 : sn < j1 + (k5 + 1)) (c_1 : ¬ nI sn ≤ nI j1) : j1 < sn := by
  exact Nat.lt_of_not_le (fun q => c_1 ((nI_leI (a := sn) (b := j1) (by omega) (by omega)).mpr q))
theorem lf_X10_pairsWithout_6 (a : Nat → Nat) (sn : Nat) (sk : Nat) (scu : Int32) (sch : Int32) (ot : Nat → Int32) (n1 : Int32) (n2 : Int32) (hsn : sn ≤ 24) (hsk : sk ≤ 8) (j1 : Nat) (w1 : Int32) (k5 : Nat) (hj5 : j1 ≤ sn) (hk5 : sn < j1 + (k5 + 1)) (c_1 : ¬ nI sn ≤ nI j1) (n_4 : j1 < sn) : j1 < 24 := by
  first | assumption | omega | decide
theorem lf_X10_pairsWithout_7 (a : Nat → Nat) (sn : Nat) (sk : Nat) (scu : Int32) (sch : Int32) (ot : Nat → Int32) (n1 : Int32) (n2 : Int32) (hsn : sn ≤ 24) (hsk : sk ≤ 8) (j1 : Nat) (w1 : Int32) (k5 : Nat) (hj5 : j1 ≤ sn) (hk5 : sn < j1 + (k5 + 1)) (c_1 : ¬ nI sn ≤ nI j1) (n_4 : j1 < sn) : 0 < 2 := by
  first | assumption | omega | decide
theorem lf_X10_pairsWithout_9 (a : Nat → Nat) (sn : Nat) (sk : Nat) (scu : Int32) (sch : Int32) (ot : Nat → Int32) (n1 : Int32) (n2 : Int32) (hsn : sn ≤ 24) (hsk : sk ≤ 8) (j1 : Nat) (w1 : Int32) (k5 : Nat) (hj5 : j1 ≤ sn) (hk5 : sn < j1 + (k5 + 1)) (c_1 : ¬ nI sn ≤ nI j1) (n_4 : j1 < sn) (r_8 : Int32) : j1 < 24 := by
  first | assumption | omega | decide
theorem lf_X10_pairsWithout_10 (a : Nat → Nat) (sn : Nat) (sk : Nat) (scu : Int32) (sch : Int32) (ot : Nat → Int32) (n1 : Int32) (n2 : Int32) (hsn : sn ≤ 24) (hsk : sk ≤ 8) (j1 : Nat) (w1 : Int32) (k5 : Nat) (hj5 : j1 ≤ sn) (hk5 : sn < j1 + (k5 + 1)) (c_1 : ¬ nI sn ≤ nI j1) (n_4 : j1 < sn) (r_8 : Int32) : 1 < 2 := by
  first | assumption | omega | decide
set_option maxHeartbeats 4000000 in
set_option maxRecDepth 100000 in
theorem c_X10_pairsWithout (l : Launch) (D : va_G) (cI cB cZ cJ : ClassId) (tx : List (ClassId × FieldType)) (a : Nat → Nat) (sn : Nat) (sk : Nat) (scu : Int32) (sch : Int32) (ot : Nat → Int32) (n1 : Int32) (n2 : Int32) (hsn : sn ≤ 24) (hsk : sk ≤ 8) : RdI l D cI cB cZ cJ tx yX10_pairsWithout cX10_pairsWithout 8 (some .int) 2 [.ref (a 10), .int n1, .int n2] [(a 10, .inr (10, [.ref (a 5), .ref (a 46)])), (a 5, .inr (4, [.ref (a 18), .ref (a 19), .ref (a 20), .ref (a 21), .ref (a 22), .ref (a 23), .ref (a 24), .int (nI sn), .int (nI sk), .int scu, .int sch])), (a 46, .inl (cI, 48, .inl ot))] (fun r => True) := by
  refine rdi_of2 (by decide) (Nat.le_of_ble_eq_true rfl) ?_
  intro p e s m below meth c A ls H locs hC hK hP hD hA hS hl
  obtain ⟨hx, hb, hr, hml, hown, hts, hlocks, hin⟩ := hC
  have hown : s.vm.findClass RX10 = some m.cls := hown
  have hl : lv_has ls 8 [(0, .ref (a 10)), (1, .int n1), (2, .int n2)] := hl
  refine lv_iconst (v := 0) hx hb dX10_pairsWithout_0 (by decide) ?_
  refine lv_istore_n (lv' := [(3, .int 0), (0, .ref (a 10)), (1, .int n1), (2, .int n2)]) hx hb dX10_pairsWithout_1 rfl hl (by decide) rfl (fun ls hl => ?_)
  refine lv_iconst (v := 0) hx hb dX10_pairsWithout_2 (by decide) ?_
  refine lv_istore (lv' := [(4, .int 0), (3, .int 0), (0, .ref (a 10)), (1, .int n1), (2, .int n2)]) hx hb dX10_pairsWithout_3 hl (by decide) rfl (fun ls hl => ?_)
  have lp5 : ∀ (k5 : Nat) (j1 : Nat) (w1 : Int32) (H : Heap) (locs : List Loc) (ls : Array Slot), j1 ≤ sn → sn < j1 + k5 → va_P D vwCl [(a 10, .inr (10, [.ref (a 5), .ref (a 46)])), (a 5, .inr (4, [.ref (a 18), .ref (a 19), .ref (a 20), .ref (a 21), .ref (a 22), .ref (a 23), .ref (a 24), .int (nI sn), .int (nI sk), .int scu, .int sch])), (a 46, .inl (cI, 48, .inl ot))] H → va_S A s.heap H locs → lv_has ls 8 [(4, .int (nI j1)), (3, .int w1), (0, .ref (a 10)), (1, .int n1), (2, .int n2)] → W p l e (rmX 2 0 0) s m ([.ref (a 10), .int n1, .int n2] : List Value).toArray below meth c H locs 0 0 (MQ below (va_Qi (fun r (_ : Unit) => (fun r => True) r) (fun _ _ => True) A) ([.ref (a 10), .int n1, .int n2] : List Value).toArray s 0 0 A) (F0 m 5 ls []) := by
    intro k5
    induction k5 with
    | zero =>
      intro j1 w1 H locs ls hj5 hk5  hP hS hl
      exact absurd hk5 (by omega)
    | succ k5 ih5 =>
      intro j1 w1 H locs ls hj5 hk5  hP hS hl
      refine lv_iload hx hb dX10_pairsWithout_5 (lv_at hl 0 rfl) ?_
      refine lv_aload_n hx hb dX10_pairsWithout_7 rfl (lv_at hl 2 rfl) ?_
      refine va_get (D := D) (ci := 10) (v := .ref (a 5)) (C := RX10) (T := TX10) (N := 2) hx hb hts inT_X10 hown hK.1 hP 0 rfl rfl 0 (by decide) (hts _ k_428) (fun _ h9 => h9) rfl dX10_pairsWithout_8 ?_
      refine va_getN (D := D) (ci := 4) (v := .int (nI sn)) (C := RX4) (T := TX4) (N := 11) hx hb hts inT_X4 hown hK.1 hP 1 rfl rfl 7 (by decide) (va_Nw.use rfl (hK.2.2.1 _ n_251)) (fun _ h9 => h9) rfl dX10_pairsWithout_11 ?_
      refine lv_icmp_ge (tgt := 85) hx hb dX10_pairsWithout_14 (by decide) (fun c_1 => ?_) (fun c_1 => ?_)
      · have n_2 : sn ≤ j1 := (lf_X10_pairsWithout_3 a sn sk scu sch ot n1 n2 hsn hsk j1 w1 k5 hj5 hk5 c_1)
        refine lv_iload_n hx hb dX10_pairsWithout_85 rfl (lv_at hl 1 rfl) ?_
        exact W.iret (v := w1) hx hb hr (fun tt9 ht hW => ⟨⟨(w1 : Int32), (), rfl, trivial, trivial⟩, hS.F ht⟩) hS.2.2 dX10_pairsWithout_86 hlocks
      · have n_4 : j1 < sn := (lf_X10_pairsWithout_5 a sn sk scu sch ot n1 n2 hsn hsk j1 w1 k5 hj5 hk5 c_1)
        refine lv_aload_n hx hb dX10_pairsWithout_17 rfl (lv_at hl 2 rfl) ?_
        refine lv_iload hx hb dX10_pairsWithout_18 (lv_at hl 0 rfl) ?_
        refine lv_iconst (v := 0) hx hb dX10_pairsWithout_20 (by decide) ?_
        refine eRi (va_runV (As := [.int (nI j1), .int 0]) (rest := []) ⟨hx, hb, hml, hown, hts⟩ (c_X10_at l D cI cB cZ cJ tx a sn sk scu sch ot j1 0 (lf_X10_pairsWithout_6 a sn sk scu sch ot n1 n2 hsn hsk j1 w1 k5 hj5 hk5 c_1 n_4) (lf_X10_pairsWithout_7 a sn sk scu sch ot n1 n2 hsn hsk j1 w1 k5 hj5 hk5 c_1 n_4) H.size) (zV hts k_1129 v_X10_at ⟨Nat.le_of_ble_eq_true rfl, Nat.le_of_ble_eq_true rfl⟩) (pV (pxS hK hP hD [0, 1, 2] (by decide) rfl) hK hP 0 rfl rfl) rfl rfl hl.1 rfl (lv_room (Nat.le_of_ble_eq_true rfl)) dX10_pairsWithout_21 ⟨Nat.le_of_ble_eq_true rfl, Nat.le_of_ble_eq_true rfl⟩) hP hS hA (fun r_8 H locs wr_8 hP hS => ?_)
        refine lv_istore (lv' := [(5, .int r_8), (4, .int (nI j1)), (3, .int w1), (0, .ref (a 10)), (1, .int n1), (2, .int n2)]) hx hb dX10_pairsWithout_24 hl (by decide) rfl (fun ls hl => ?_)
        refine lv_aload_n hx hb dX10_pairsWithout_26 rfl (lv_at hl 3 rfl) ?_
        refine lv_iload hx hb dX10_pairsWithout_27 (lv_at hl 1 rfl) ?_
        refine lv_iconst (v := 1) hx hb dX10_pairsWithout_29 (by decide) ?_
        refine eRi (va_runV (As := [.int (nI j1), .int 1]) (rest := []) ⟨hx, hb, hml, hown, hts⟩ (c_X10_at l D cI cB cZ cJ tx a sn sk scu sch ot j1 1 (lf_X10_pairsWithout_9 a sn sk scu sch ot n1 n2 hsn hsk j1 w1 k5 hj5 hk5 c_1 n_4 r_8) (lf_X10_pairsWithout_10 a sn sk scu sch ot n1 n2 hsn hsk j1 w1 k5 hj5 hk5 c_1 n_4 r_8) H.size) (zV hts k_1129 v_X10_at ⟨Nat.le_of_ble_eq_true rfl, Nat.le_of_ble_eq_true rfl⟩) (pV (pxS hK hP hD [0, 1, 2] (by decide) rfl) hK hP 0 rfl rfl) rfl rfl hl.1 rfl (lv_room (Nat.le_of_ble_eq_true rfl)) dX10_pairsWithout_30 ⟨Nat.le_of_ble_eq_true rfl, Nat.le_of_ble_eq_true rfl⟩) hP hS hA (fun r_11 H locs wr_11 hP hS => ?_)
        refine lv_istore (lv' := [(6, .int r_11), (5, .int r_8), (4, .int (nI j1)), (3, .int w1), (0, .ref (a 10)), (1, .int n1), (2, .int n2)]) hx hb dX10_pairsWithout_33 hl (by decide) rfl (fun ls hl => ?_)
        refine lv_iload hx hb dX10_pairsWithout_35 (lv_at hl 1 rfl) ?_
        refine lv_iload_n hx hb dX10_pairsWithout_37 rfl (lv_at hl 5 rfl) ?_
        refine lv_icmp_eq (tgt := 59) hx hb dX10_pairsWithout_38 (by decide) (fun c_12 => ?_) (fun c_12 => ?_)
        · refine lv_iconst (v := 1) hx hb dX10_pairsWithout_59 (by decide) ?_
          refine lv_goto (tgt := 64) hx hb dX10_pairsWithout_60 (by decide) ?_
          refine lv_istore (lv' := [(7, .int 1), (6, .int r_11), (5, .int r_8), (4, .int (nI j1)), (3, .int w1), (0, .ref (a 10)), (1, .int n1), (2, .int n2)]) hx hb dX10_pairsWithout_64 hl (by decide) rfl (fun ls hl => ?_)
          refine lv_iload_n hx hb dX10_pairsWithout_66 rfl (lv_at hl 4 rfl) ?_
          refine lv_iload hx hb dX10_pairsWithout_67 (lv_at hl 0 rfl) ?_
          refine lv_if_eq (tgt := 76) hx hb dX10_pairsWithout_69 (by decide) (fun c => absurd c (by decide)) (fun _ => ?_)
          refine lv_iconst (v := 0) hx hb dX10_pairsWithout_72 (by decide) ?_
          refine lv_goto (tgt := 77) hx hb dX10_pairsWithout_73 (by decide) ?_
          refine lv_iadd hx hb dX10_pairsWithout_77 ?_
          refine lv_topi (fun x_13 ex_13 => ?_)
          refine lv_istore_n (lv' := [(3, .int x_13), (7, .int 1), (6, .int r_11), (5, .int r_8), (4, .int (nI j1)), (0, .ref (a 10)), (1, .int n1), (2, .int n2)]) hx hb dX10_pairsWithout_78 rfl hl (by decide) rfl (fun ls hl => ?_)
          refine lv_iinc (v := nI (j1 + 1)) (lv' := [(4, .int (nI (j1 + 1))), (3, .int x_13), (7, .int 1), (6, .int r_11), (5, .int r_8), (0, .ref (a 10)), (1, .int n1), (2, .int n2)]) hx hb dX10_pairsWithout_79 hl (k := 4) rfl (nI_1 j1) (by decide) rfl (fun ls hl => ?_)
          refine lv_goto (tgt := 5) hx hb dX10_pairsWithout_82 (by decide) ?_
          exact ih5 (j1 + 1) x_13 H locs ls (by omega) (by omega)  (hP.sub [0, 1, 2] rfl)  hS (lv_sub hl [0, 1, 5, 6, 7] rfl)
        · refine lv_iload hx hb dX10_pairsWithout_41 (lv_at hl 1 rfl) ?_
          refine lv_iload_n hx hb dX10_pairsWithout_43 rfl (lv_at hl 6 rfl) ?_
          refine lv_icmp_eq (tgt := 59) hx hb dX10_pairsWithout_44 (by decide) (fun c_14 => ?_) (fun c_14 => ?_)
          · refine lv_iconst (v := 1) hx hb dX10_pairsWithout_59 (by decide) ?_
            refine lv_goto (tgt := 64) hx hb dX10_pairsWithout_60 (by decide) ?_
            refine lv_istore (lv' := [(7, .int 1), (6, .int r_11), (5, .int r_8), (4, .int (nI j1)), (3, .int w1), (0, .ref (a 10)), (1, .int n1), (2, .int n2)]) hx hb dX10_pairsWithout_64 hl (by decide) rfl (fun ls hl => ?_)
            refine lv_iload_n hx hb dX10_pairsWithout_66 rfl (lv_at hl 4 rfl) ?_
            refine lv_iload hx hb dX10_pairsWithout_67 (lv_at hl 0 rfl) ?_
            refine lv_if_eq (tgt := 76) hx hb dX10_pairsWithout_69 (by decide) (fun c => absurd c (by decide)) (fun _ => ?_)
            refine lv_iconst (v := 0) hx hb dX10_pairsWithout_72 (by decide) ?_
            refine lv_goto (tgt := 77) hx hb dX10_pairsWithout_73 (by decide) ?_
            refine lv_iadd hx hb dX10_pairsWithout_77 ?_
            refine lv_topi (fun x_15 ex_15 => ?_)
            refine lv_istore_n (lv' := [(3, .int x_15), (7, .int 1), (6, .int r_11), (5, .int r_8), (4, .int (nI j1)), (0, .ref (a 10)), (1, .int n1), (2, .int n2)]) hx hb dX10_pairsWithout_78 rfl hl (by decide) rfl (fun ls hl => ?_)
            refine lv_iinc (v := nI (j1 + 1)) (lv' := [(4, .int (nI (j1 + 1))), (3, .int x_15), (7, .int 1), (6, .int r_11), (5, .int r_8), (0, .ref (a 10)), (1, .int n1), (2, .int n2)]) hx hb dX10_pairsWithout_79 hl (k := 4) rfl (nI_1 j1) (by decide) rfl (fun ls hl => ?_)
            refine lv_goto (tgt := 5) hx hb dX10_pairsWithout_82 (by decide) ?_
            exact ih5 (j1 + 1) x_15 H locs ls (by omega) (by omega)  (hP.sub [0, 1, 2] rfl)  hS (lv_sub hl [0, 1, 5, 6, 7] rfl)
          · refine lv_iload hx hb dX10_pairsWithout_47 (lv_at hl 0 rfl) ?_
            refine lv_iload_n hx hb dX10_pairsWithout_49 rfl (lv_at hl 5 rfl) ?_
            refine lv_icmp_eq (tgt := 59) hx hb dX10_pairsWithout_50 (by decide) (fun c_16 => ?_) (fun c_16 => ?_)
            · refine lv_iconst (v := 1) hx hb dX10_pairsWithout_59 (by decide) ?_
              refine lv_goto (tgt := 64) hx hb dX10_pairsWithout_60 (by decide) ?_
              refine lv_istore (lv' := [(7, .int 1), (6, .int r_11), (5, .int r_8), (4, .int (nI j1)), (3, .int w1), (0, .ref (a 10)), (1, .int n1), (2, .int n2)]) hx hb dX10_pairsWithout_64 hl (by decide) rfl (fun ls hl => ?_)
              refine lv_iload_n hx hb dX10_pairsWithout_66 rfl (lv_at hl 4 rfl) ?_
              refine lv_iload hx hb dX10_pairsWithout_67 (lv_at hl 0 rfl) ?_
              refine lv_if_eq (tgt := 76) hx hb dX10_pairsWithout_69 (by decide) (fun c => absurd c (by decide)) (fun _ => ?_)
              refine lv_iconst (v := 0) hx hb dX10_pairsWithout_72 (by decide) ?_
              refine lv_goto (tgt := 77) hx hb dX10_pairsWithout_73 (by decide) ?_
              refine lv_iadd hx hb dX10_pairsWithout_77 ?_
              refine lv_topi (fun x_17 ex_17 => ?_)
              refine lv_istore_n (lv' := [(3, .int x_17), (7, .int 1), (6, .int r_11), (5, .int r_8), (4, .int (nI j1)), (0, .ref (a 10)), (1, .int n1), (2, .int n2)]) hx hb dX10_pairsWithout_78 rfl hl (by decide) rfl (fun ls hl => ?_)
              refine lv_iinc (v := nI (j1 + 1)) (lv' := [(4, .int (nI (j1 + 1))), (3, .int x_17), (7, .int 1), (6, .int r_11), (5, .int r_8), (0, .ref (a 10)), (1, .int n1), (2, .int n2)]) hx hb dX10_pairsWithout_79 hl (k := 4) rfl (nI_1 j1) (by decide) rfl (fun ls hl => ?_)
              refine lv_goto (tgt := 5) hx hb dX10_pairsWithout_82 (by decide) ?_
              exact ih5 (j1 + 1) x_17 H locs ls (by omega) (by omega)  (hP.sub [0, 1, 2] rfl)  hS (lv_sub hl [0, 1, 5, 6, 7] rfl)
            · refine lv_iload hx hb dX10_pairsWithout_53 (lv_at hl 0 rfl) ?_
              refine lv_iload_n hx hb dX10_pairsWithout_55 rfl (lv_at hl 6 rfl) ?_
              refine lv_icmp_ne (tgt := 63) hx hb dX10_pairsWithout_56 (by decide) (fun c_18 => ?_) (fun c_18 => ?_)
              · refine lv_iconst (v := 0) hx hb dX10_pairsWithout_63 (by decide) ?_
                refine lv_istore (lv' := [(7, .int 0), (6, .int r_11), (5, .int r_8), (4, .int (nI j1)), (3, .int w1), (0, .ref (a 10)), (1, .int n1), (2, .int n2)]) hx hb dX10_pairsWithout_64 hl (by decide) rfl (fun ls hl => ?_)
                refine lv_iload_n hx hb dX10_pairsWithout_66 rfl (lv_at hl 4 rfl) ?_
                refine lv_iload hx hb dX10_pairsWithout_67 (lv_at hl 0 rfl) ?_
                refine lv_if_eq (tgt := 76) hx hb dX10_pairsWithout_69 (by decide) (fun _ => ?_) (fun c => absurd c (by decide))
                refine lv_iconst (v := 1) hx hb dX10_pairsWithout_76 (by decide) ?_
                refine lv_iadd hx hb dX10_pairsWithout_77 ?_
                refine lv_topi (fun x_19 ex_19 => ?_)
                refine lv_istore_n (lv' := [(3, .int x_19), (7, .int 0), (6, .int r_11), (5, .int r_8), (4, .int (nI j1)), (0, .ref (a 10)), (1, .int n1), (2, .int n2)]) hx hb dX10_pairsWithout_78 rfl hl (by decide) rfl (fun ls hl => ?_)
                refine lv_iinc (v := nI (j1 + 1)) (lv' := [(4, .int (nI (j1 + 1))), (3, .int x_19), (7, .int 0), (6, .int r_11), (5, .int r_8), (0, .ref (a 10)), (1, .int n1), (2, .int n2)]) hx hb dX10_pairsWithout_79 hl (k := 4) rfl (nI_1 j1) (by decide) rfl (fun ls hl => ?_)
                refine lv_goto (tgt := 5) hx hb dX10_pairsWithout_82 (by decide) ?_
                exact ih5 (j1 + 1) x_19 H locs ls (by omega) (by omega)  (hP.sub [0, 1, 2] rfl)  hS (lv_sub hl [0, 1, 5, 6, 7] rfl)
              · refine lv_iconst (v := 1) hx hb dX10_pairsWithout_59 (by decide) ?_
                refine lv_goto (tgt := 64) hx hb dX10_pairsWithout_60 (by decide) ?_
                refine lv_istore (lv' := [(7, .int 1), (6, .int r_11), (5, .int r_8), (4, .int (nI j1)), (3, .int w1), (0, .ref (a 10)), (1, .int n1), (2, .int n2)]) hx hb dX10_pairsWithout_64 hl (by decide) rfl (fun ls hl => ?_)
                refine lv_iload_n hx hb dX10_pairsWithout_66 rfl (lv_at hl 4 rfl) ?_
                refine lv_iload hx hb dX10_pairsWithout_67 (lv_at hl 0 rfl) ?_
                refine lv_if_eq (tgt := 76) hx hb dX10_pairsWithout_69 (by decide) (fun c => absurd c (by decide)) (fun _ => ?_)
                refine lv_iconst (v := 0) hx hb dX10_pairsWithout_72 (by decide) ?_
                refine lv_goto (tgt := 77) hx hb dX10_pairsWithout_73 (by decide) ?_
                refine lv_iadd hx hb dX10_pairsWithout_77 ?_
                refine lv_topi (fun x_20 ex_20 => ?_)
                refine lv_istore_n (lv' := [(3, .int x_20), (7, .int 1), (6, .int r_11), (5, .int r_8), (4, .int (nI j1)), (0, .ref (a 10)), (1, .int n1), (2, .int n2)]) hx hb dX10_pairsWithout_78 rfl hl (by decide) rfl (fun ls hl => ?_)
                refine lv_iinc (v := nI (j1 + 1)) (lv' := [(4, .int (nI (j1 + 1))), (3, .int x_20), (7, .int 1), (6, .int r_11), (5, .int r_8), (0, .ref (a 10)), (1, .int n1), (2, .int n2)]) hx hb dX10_pairsWithout_79 hl (k := 4) rfl (nI_1 j1) (by decide) rfl (fun ls hl => ?_)
                refine lv_goto (tgt := 5) hx hb dX10_pairsWithout_82 (by decide) ?_
                exact ih5 (j1 + 1) x_20 H locs ls (by omega) (by omega)  (hP.sub [0, 1, 2] rfl)  hS (lv_sub hl [0, 1, 5, 6, 7] rfl)
  exact lp5 (sn + 1) 0 0 H locs ls (by omega) (by omega)  (hP.sub [0, 1, 2] rfl)  hS (lv_sub hl [0, 1, 2, 3, 4] rfl)

theorem lf_X10_those_3 (a : Nat → Nat) (sn : Nat) (sk : Nat) (scu : Int32) (sch : Int32) (ot : Nat → Int32) (n1 : Int32) (hsn : sn ≤ 24) (hsk : sk ≤ 8) (j1 : Nat) (w1 : Int32) (k4 : Nat) (hj4 : j1 ≤ sn) (hk4 : sn < j1 + (k4 + 1)) (c_1 : nI sn ≤ nI j1) : sn ≤ j1 := by
  exact (nI_leI (a := sn) (b := j1) (by omega) (by omega)).mp c_1
theorem lf_X10_those_5 (a : Nat → Nat) (sn : Nat) (sk : Nat) (scu : Int32) (sch : Int32) (ot : Nat → Int32) (n1 : Int32) (hsn : sn ≤ 24) (hsk : sk ≤ 8) (j1 : Nat) (w1 : Int32) (k4 : Nat) (hj4 : j1 ≤ sn) (hk4 : sn < j1 + (k4 + 1)) (c_1 : ¬ nI sn ≤ nI j1) : j1 < sn := by
  exact Nat.lt_of_not_le (fun q => c_1 ((nI_leI (a := sn) (b := j1) (by omega) (by omega)).mpr q))
theorem lf_X10_those_6 (a : Nat → Nat) (sn : Nat) (sk : Nat) (scu : Int32) (sch : Int32) (ot : Nat → Int32) (n1 : Int32) (hsn : sn ≤ 24) (hsk : sk ≤ 8) (j1 : Nat) (w1 : Int32) (k4 : Nat) (hj4 : j1 ≤ sn) (hk4 : sn < j1 + (k4 + 1)) (c_1 : ¬ nI sn ≤ nI j1) (n_4 : j1 < sn) : j1 < 24 := by
  first | assumption | omega | decide
theorem lf_X10_those_7 (a : Nat → Nat) (sn : Nat) (sk : Nat) (scu : Int32) (sch : Int32) (ot : Nat → Int32) (n1 : Int32) (hsn : sn ≤ 24) (hsk : sk ≤ 8) (j1 : Nat) (w1 : Int32) (k4 : Nat) (hj4 : j1 ≤ sn) (hk4 : sn < j1 + (k4 + 1)) (c_1 : ¬ nI sn ≤ nI j1) (n_4 : j1 < sn) : 0 < 2 := by
  first | assumption | omega | decide
theorem lf_X10_those_11 (a : Nat → Nat) (sn : Nat) (sk : Nat) (scu : Int32) (sch : Int32) (ot : Nat → Int32) (n1 : Int32) (hsn : sn ≤ 24) (hsk : sk ≤ 8) (j1 : Nat) (w1 : Int32) (k4 : Nat) (hj4 : j1 ≤ sn) (hk4 : sn < j1 + (k4 + 1)) (c_1 : ¬ nI sn ≤ nI j1) (n_4 : j1 < sn) (r_8 : Int32) (c_9 : r_8 < n1) (x_10 : Int32) (ex_10 : x_10 = w1 + 0) : j1 < 24 := by
  first | assumption | omega | decide
theorem lf_X10_those_12 (a : Nat → Nat) (sn : Nat) (sk : Nat) (scu : Int32) (sch : Int32) (ot : Nat → Int32) (n1 : Int32) (hsn : sn ≤ 24) (hsk : sk ≤ 8) (j1 : Nat) (w1 : Int32) (k4 : Nat) (hj4 : j1 ≤ sn) (hk4 : sn < j1 + (k4 + 1)) (c_1 : ¬ nI sn ≤ nI j1) (n_4 : j1 < sn) (r_8 : Int32) (c_9 : r_8 < n1) (x_10 : Int32) (ex_10 : x_10 = w1 + 0) : 1 < 2 := by
  first | assumption | omega | decide
theorem lf_X10_those_18 (a : Nat → Nat) (sn : Nat) (sk : Nat) (scu : Int32) (sch : Int32) (ot : Nat → Int32) (n1 : Int32) (hsn : sn ≤ 24) (hsk : sk ≤ 8) (j1 : Nat) (w1 : Int32) (k4 : Nat) (hj4 : j1 ≤ sn) (hk4 : sn < j1 + (k4 + 1)) (c_1 : ¬ nI sn ≤ nI j1) (n_4 : j1 < sn) (r_8 : Int32) (c_9 : ¬ r_8 < n1) (x_17 : Int32) (ex_17 : x_17 = w1 + 1) : j1 < 24 := by
  first | assumption | omega | decide
theorem lf_X10_those_19 (a : Nat → Nat) (sn : Nat) (sk : Nat) (scu : Int32) (sch : Int32) (ot : Nat → Int32) (n1 : Int32) (hsn : sn ≤ 24) (hsk : sk ≤ 8) (j1 : Nat) (w1 : Int32) (k4 : Nat) (hj4 : j1 ≤ sn) (hk4 : sn < j1 + (k4 + 1)) (c_1 : ¬ nI sn ≤ nI j1) (n_4 : j1 < sn) (r_8 : Int32) (c_9 : ¬ r_8 < n1) (x_17 : Int32) (ex_17 : x_17 = w1 + 1) : 1 < 2 := by
  first | assumption | omega | decide
set_option maxHeartbeats 4000000 in
set_option maxRecDepth 100000 in
theorem c_X10_those (l : Launch) (D : va_G) (cI cB cZ cJ : ClassId) (tx : List (ClassId × FieldType)) (a : Nat → Nat) (sn : Nat) (sk : Nat) (scu : Int32) (sch : Int32) (ot : Nat → Int32) (n1 : Int32) (hsn : sn ≤ 24) (hsk : sk ≤ 8) : RdI l D cI cB cZ cJ tx yX10_those cX10_those 4 (some .int) 2 [.ref (a 10), .int n1] [(a 10, .inr (10, [.ref (a 5), .ref (a 46)])), (a 5, .inr (4, [.ref (a 18), .ref (a 19), .ref (a 20), .ref (a 21), .ref (a 22), .ref (a 23), .ref (a 24), .int (nI sn), .int (nI sk), .int scu, .int sch])), (a 46, .inl (cI, 48, .inl ot))] (fun r => True) := by
  refine rdi_of2 (by decide) (Nat.le_of_ble_eq_true rfl) ?_
  intro p e s m below meth c A ls H locs hC hK hP hD hA hS hl
  obtain ⟨hx, hb, hr, hml, hown, hts, hlocks, hin⟩ := hC
  have hown : s.vm.findClass RX10 = some m.cls := hown
  have hl : lv_has ls 4 [(0, .ref (a 10)), (1, .int n1)] := hl
  refine lv_iconst (v := 0) hx hb dX10_those_0 (by decide) ?_
  refine lv_istore_n (lv' := [(2, .int 0), (0, .ref (a 10)), (1, .int n1)]) hx hb dX10_those_1 rfl hl (by decide) rfl (fun ls hl => ?_)
  refine lv_iconst (v := 0) hx hb dX10_those_2 (by decide) ?_
  refine lv_istore_n (lv' := [(3, .int 0), (2, .int 0), (0, .ref (a 10)), (1, .int n1)]) hx hb dX10_those_3 rfl hl (by decide) rfl (fun ls hl => ?_)
  have lp4 : ∀ (k4 : Nat) (j1 : Nat) (w1 : Int32) (H : Heap) (locs : List Loc) (ls : Array Slot), j1 ≤ sn → sn < j1 + k4 → va_P D vwCl [(a 10, .inr (10, [.ref (a 5), .ref (a 46)])), (a 5, .inr (4, [.ref (a 18), .ref (a 19), .ref (a 20), .ref (a 21), .ref (a 22), .ref (a 23), .ref (a 24), .int (nI sn), .int (nI sk), .int scu, .int sch])), (a 46, .inl (cI, 48, .inl ot))] H → va_S A s.heap H locs → lv_has ls 4 [(3, .int (nI j1)), (2, .int w1), (0, .ref (a 10)), (1, .int n1)] → W p l e (rmX 2 0 0) s m ([.ref (a 10), .int n1] : List Value).toArray below meth c H locs 0 0 (MQ below (va_Qi (fun r (_ : Unit) => (fun r => True) r) (fun _ _ => True) A) ([.ref (a 10), .int n1] : List Value).toArray s 0 0 A) (F0 m 4 ls []) := by
    intro k4
    induction k4 with
    | zero =>
      intro j1 w1 H locs ls hj4 hk4  hP hS hl
      exact absurd hk4 (by omega)
    | succ k4 ih4 =>
      intro j1 w1 H locs ls hj4 hk4  hP hS hl
      refine lv_iload_n hx hb dX10_those_4 rfl (lv_at hl 0 rfl) ?_
      refine lv_aload_n hx hb dX10_those_5 rfl (lv_at hl 2 rfl) ?_
      refine va_get (D := D) (ci := 10) (v := .ref (a 5)) (C := RX10) (T := TX10) (N := 2) hx hb hts inT_X10 hown hK.1 hP 0 rfl rfl 0 (by decide) (hts _ k_428) (fun _ h9 => h9) rfl dX10_those_6 ?_
      refine va_getN (D := D) (ci := 4) (v := .int (nI sn)) (C := RX4) (T := TX4) (N := 11) hx hb hts inT_X4 hown hK.1 hP 1 rfl rfl 7 (by decide) (va_Nw.use rfl (hK.2.2.1 _ n_251)) (fun _ h9 => h9) rfl dX10_those_9 ?_
      refine lv_icmp_ge (tgt := 57) hx hb dX10_those_12 (by decide) (fun c_1 => ?_) (fun c_1 => ?_)
      · have n_2 : sn ≤ j1 := (lf_X10_those_3 a sn sk scu sch ot n1 hsn hsk j1 w1 k4 hj4 hk4 c_1)
        refine lv_iload_n hx hb dX10_those_57 rfl (lv_at hl 1 rfl) ?_
        exact W.iret (v := w1) hx hb hr (fun tt9 ht hW => ⟨⟨(w1 : Int32), (), rfl, trivial, trivial⟩, hS.F ht⟩) hS.2.2 dX10_those_58 hlocks
      · have n_4 : j1 < sn := (lf_X10_those_5 a sn sk scu sch ot n1 hsn hsk j1 w1 k4 hj4 hk4 c_1)
        refine lv_iload_n hx hb dX10_those_15 rfl (lv_at hl 1 rfl) ?_
        refine lv_aload_n hx hb dX10_those_16 rfl (lv_at hl 2 rfl) ?_
        refine lv_iload_n hx hb dX10_those_17 rfl (lv_at hl 0 rfl) ?_
        refine lv_iconst (v := 0) hx hb dX10_those_18 (by decide) ?_
        refine eRi (va_runV (As := [.int (nI j1), .int 0]) (rest := [.int w1]) ⟨hx, hb, hml, hown, hts⟩ (c_X10_at l D cI cB cZ cJ tx a sn sk scu sch ot j1 0 (lf_X10_those_6 a sn sk scu sch ot n1 hsn hsk j1 w1 k4 hj4 hk4 c_1 n_4) (lf_X10_those_7 a sn sk scu sch ot n1 hsn hsk j1 w1 k4 hj4 hk4 c_1 n_4) H.size) (zV hts k_1129 v_X10_at ⟨Nat.le_of_ble_eq_true rfl, Nat.le_of_ble_eq_true rfl⟩) (pV (pxS hK hP hD [0, 1, 2] (by decide) rfl) hK hP 0 rfl rfl) rfl rfl hl.1 rfl (lv_room (Nat.le_of_ble_eq_true rfl)) dX10_those_19 ⟨Nat.le_of_ble_eq_true rfl, Nat.le_of_ble_eq_true rfl⟩) hP hS hA (fun r_8 H locs wr_8 hP hS => ?_)
        refine lv_iload_n hx hb dX10_those_22 rfl (lv_at hl 3 rfl) ?_
        refine lv_icmp_lt (tgt := 30) hx hb dX10_those_23 (by decide) (fun c_9 => ?_) (fun c_9 => ?_)
        · refine lv_iconst (v := 0) hx hb dX10_those_30 (by decide) ?_
          refine lv_iadd hx hb dX10_those_31 ?_
          refine lv_topi (fun x_10 ex_10 => ?_)
          refine lv_istore_n (lv' := [(2, .int x_10), (3, .int (nI j1)), (0, .ref (a 10)), (1, .int n1)]) hx hb dX10_those_32 rfl hl (by decide) rfl (fun ls hl => ?_)
          refine lv_iload_n hx hb dX10_those_33 rfl (lv_at hl 0 rfl) ?_
          refine lv_aload_n hx hb dX10_those_34 rfl (lv_at hl 2 rfl) ?_
          refine lv_iload_n hx hb dX10_those_35 rfl (lv_at hl 1 rfl) ?_
          refine lv_iconst (v := 1) hx hb dX10_those_36 (by decide) ?_
          refine eRi (va_runV (As := [.int (nI j1), .int 1]) (rest := [.int x_10]) ⟨hx, hb, hml, hown, hts⟩ (c_X10_at l D cI cB cZ cJ tx a sn sk scu sch ot j1 1 (lf_X10_those_11 a sn sk scu sch ot n1 hsn hsk j1 w1 k4 hj4 hk4 c_1 n_4 r_8 c_9 x_10 ex_10) (lf_X10_those_12 a sn sk scu sch ot n1 hsn hsk j1 w1 k4 hj4 hk4 c_1 n_4 r_8 c_9 x_10 ex_10) H.size) (zV hts k_1129 v_X10_at ⟨Nat.le_of_ble_eq_true rfl, Nat.le_of_ble_eq_true rfl⟩) (pV (pxS hK hP hD [0, 1, 2] (by decide) rfl) hK hP 0 rfl rfl) rfl rfl hl.1 rfl (lv_room (Nat.le_of_ble_eq_true rfl)) dX10_those_37 ⟨Nat.le_of_ble_eq_true rfl, Nat.le_of_ble_eq_true rfl⟩) hP hS hA (fun r_13 H locs wr_13 hP hS => ?_)
          refine lv_iload_n hx hb dX10_those_40 rfl (lv_at hl 3 rfl) ?_
          refine lv_icmp_lt (tgt := 48) hx hb dX10_those_41 (by decide) (fun c_14 => ?_) (fun c_14 => ?_)
          · refine lv_iconst (v := 0) hx hb dX10_those_48 (by decide) ?_
            refine lv_iadd hx hb dX10_those_49 ?_
            refine lv_topi (fun x_15 ex_15 => ?_)
            refine lv_istore_n (lv' := [(2, .int x_15), (3, .int (nI j1)), (0, .ref (a 10)), (1, .int n1)]) hx hb dX10_those_50 rfl hl (by decide) rfl (fun ls hl => ?_)
            refine lv_iinc (v := nI (j1 + 1)) (lv' := [(3, .int (nI (j1 + 1))), (2, .int x_15), (0, .ref (a 10)), (1, .int n1)]) hx hb dX10_those_51 hl (k := 1) rfl (nI_1 j1) (by decide) rfl (fun ls hl => ?_)
            refine lv_goto (tgt := 4) hx hb dX10_those_54 (by decide) ?_
            exact ih4 (j1 + 1) x_15 H locs ls (by omega) (by omega)  (hP.sub [0, 1, 2] rfl)  hS (lv_sub hl [0, 1, 2, 3] rfl)
          · refine lv_iconst (v := 1) hx hb dX10_those_44 (by decide) ?_
            refine lv_goto (tgt := 49) hx hb dX10_those_45 (by decide) ?_
            refine lv_iadd hx hb dX10_those_49 ?_
            refine lv_topi (fun x_16 ex_16 => ?_)
            refine lv_istore_n (lv' := [(2, .int x_16), (3, .int (nI j1)), (0, .ref (a 10)), (1, .int n1)]) hx hb dX10_those_50 rfl hl (by decide) rfl (fun ls hl => ?_)
            refine lv_iinc (v := nI (j1 + 1)) (lv' := [(3, .int (nI (j1 + 1))), (2, .int x_16), (0, .ref (a 10)), (1, .int n1)]) hx hb dX10_those_51 hl (k := 1) rfl (nI_1 j1) (by decide) rfl (fun ls hl => ?_)
            refine lv_goto (tgt := 4) hx hb dX10_those_54 (by decide) ?_
            exact ih4 (j1 + 1) x_16 H locs ls (by omega) (by omega)  (hP.sub [0, 1, 2] rfl)  hS (lv_sub hl [0, 1, 2, 3] rfl)
        · refine lv_iconst (v := 1) hx hb dX10_those_26 (by decide) ?_
          refine lv_goto (tgt := 31) hx hb dX10_those_27 (by decide) ?_
          refine lv_iadd hx hb dX10_those_31 ?_
          refine lv_topi (fun x_17 ex_17 => ?_)
          refine lv_istore_n (lv' := [(2, .int x_17), (3, .int (nI j1)), (0, .ref (a 10)), (1, .int n1)]) hx hb dX10_those_32 rfl hl (by decide) rfl (fun ls hl => ?_)
          refine lv_iload_n hx hb dX10_those_33 rfl (lv_at hl 0 rfl) ?_
          refine lv_aload_n hx hb dX10_those_34 rfl (lv_at hl 2 rfl) ?_
          refine lv_iload_n hx hb dX10_those_35 rfl (lv_at hl 1 rfl) ?_
          refine lv_iconst (v := 1) hx hb dX10_those_36 (by decide) ?_
          refine eRi (va_runV (As := [.int (nI j1), .int 1]) (rest := [.int x_17]) ⟨hx, hb, hml, hown, hts⟩ (c_X10_at l D cI cB cZ cJ tx a sn sk scu sch ot j1 1 (lf_X10_those_18 a sn sk scu sch ot n1 hsn hsk j1 w1 k4 hj4 hk4 c_1 n_4 r_8 c_9 x_17 ex_17) (lf_X10_those_19 a sn sk scu sch ot n1 hsn hsk j1 w1 k4 hj4 hk4 c_1 n_4 r_8 c_9 x_17 ex_17) H.size) (zV hts k_1129 v_X10_at ⟨Nat.le_of_ble_eq_true rfl, Nat.le_of_ble_eq_true rfl⟩) (pV (pxS hK hP hD [0, 1, 2] (by decide) rfl) hK hP 0 rfl rfl) rfl rfl hl.1 rfl (lv_room (Nat.le_of_ble_eq_true rfl)) dX10_those_37 ⟨Nat.le_of_ble_eq_true rfl, Nat.le_of_ble_eq_true rfl⟩) hP hS hA (fun r_20 H locs wr_20 hP hS => ?_)
          refine lv_iload_n hx hb dX10_those_40 rfl (lv_at hl 3 rfl) ?_
          refine lv_icmp_lt (tgt := 48) hx hb dX10_those_41 (by decide) (fun c_21 => ?_) (fun c_21 => ?_)
          · refine lv_iconst (v := 0) hx hb dX10_those_48 (by decide) ?_
            refine lv_iadd hx hb dX10_those_49 ?_
            refine lv_topi (fun x_22 ex_22 => ?_)
            refine lv_istore_n (lv' := [(2, .int x_22), (3, .int (nI j1)), (0, .ref (a 10)), (1, .int n1)]) hx hb dX10_those_50 rfl hl (by decide) rfl (fun ls hl => ?_)
            refine lv_iinc (v := nI (j1 + 1)) (lv' := [(3, .int (nI (j1 + 1))), (2, .int x_22), (0, .ref (a 10)), (1, .int n1)]) hx hb dX10_those_51 hl (k := 1) rfl (nI_1 j1) (by decide) rfl (fun ls hl => ?_)
            refine lv_goto (tgt := 4) hx hb dX10_those_54 (by decide) ?_
            exact ih4 (j1 + 1) x_22 H locs ls (by omega) (by omega)  (hP.sub [0, 1, 2] rfl)  hS (lv_sub hl [0, 1, 2, 3] rfl)
          · refine lv_iconst (v := 1) hx hb dX10_those_44 (by decide) ?_
            refine lv_goto (tgt := 49) hx hb dX10_those_45 (by decide) ?_
            refine lv_iadd hx hb dX10_those_49 ?_
            refine lv_topi (fun x_23 ex_23 => ?_)
            refine lv_istore_n (lv' := [(2, .int x_23), (3, .int (nI j1)), (0, .ref (a 10)), (1, .int n1)]) hx hb dX10_those_50 rfl hl (by decide) rfl (fun ls hl => ?_)
            refine lv_iinc (v := nI (j1 + 1)) (lv' := [(3, .int (nI (j1 + 1))), (2, .int x_23), (0, .ref (a 10)), (1, .int n1)]) hx hb dX10_those_51 hl (k := 1) rfl (nI_1 j1) (by decide) rfl (fun ls hl => ?_)
            refine lv_goto (tgt := 4) hx hb dX10_those_54 (by decide) ?_
            exact ih4 (j1 + 1) x_23 H locs ls (by omega) (by omega)  (hP.sub [0, 1, 2] rfl)  hS (lv_sub hl [0, 1, 2, 3] rfl)
  exact lp4 (sn + 1) 0 0 H locs ls (by omega) (by omega)  (hP.sub [0, 1, 2] rfl)  hS (lv_sub hl [0, 1, 2, 3] rfl)

theorem lf_X10_pairsSeen_1 (a : Nat → Nat) (sn : Nat) (sk : Nat) (scu : Int32) (sch : Int32) (ot : Nat → Int32) (hsn : sn ≤ 24) (hsk : sk ≤ 8) : sn ≤ 24 := by
  first | assumption | omega | decide
theorem lf_X10_pairsSeen_2 (a : Nat → Nat) (sn : Nat) (sk : Nat) (scu : Int32) (sch : Int32) (ot : Nat → Int32) (hsn : sn ≤ 24) (hsk : sk ≤ 8) : sk ≤ 8 := by
  first | assumption | omega | decide
set_option maxHeartbeats 4000000 in
set_option maxRecDepth 100000 in
theorem c_X10_pairsSeen (l : Launch) (D : va_G) (cI cB cZ cJ : ClassId) (tx : List (ClassId × FieldType)) (a : Nat → Nat) (sn : Nat) (sk : Nat) (scu : Int32) (sch : Int32) (ot : Nat → Int32) (hsn : sn ≤ 24) (hsk : sk ≤ 8) : RdI l D cI cB cZ cJ tx yX10_pairsSeen cX10_pairsSeen 1 (some .int) 3 [.ref (a 10)] [(a 10, .inr (10, [.ref (a 5), .ref (a 46)])), (a 5, .inr (4, [.ref (a 18), .ref (a 19), .ref (a 20), .ref (a 21), .ref (a 22), .ref (a 23), .ref (a 24), .int (nI sn), .int (nI sk), .int scu, .int sch])), (a 46, .inl (cI, 48, .inl ot))] (fun r => True) := by
  refine rdi_of2 (by decide) (Nat.le_of_ble_eq_true rfl) ?_
  intro p e s m below meth c A ls H locs hC hK hP hD hA hS hl
  obtain ⟨hx, hb, hr, hml, hown, hts, hlocks, hin⟩ := hC
  have hown : s.vm.findClass RX10 = some m.cls := hown
  have hl : lv_has ls 1 [(0, .ref (a 10))] := hl
  refine lv_aload_n hx hb dX10_pairsSeen_0 rfl (lv_at hl 0 rfl) ?_
  refine lv_iconst (v := 0) hx hb dX10_pairsSeen_1 (by decide) ?_
  refine lv_iconst (v := (-1)) hx hb dX10_pairsSeen_2 (by decide) ?_
  refine eRi (va_runV (As := [.int 0, .int (-1)]) (rest := []) ⟨hx, hb, hml, hown, hts⟩ (c_X10_pairsWithout l D cI cB cZ cJ tx a sn sk scu sch ot 0 (-1) (lf_X10_pairsSeen_1 a sn sk scu sch ot hsn hsk) (lf_X10_pairsSeen_2 a sn sk scu sch ot hsn hsk) H.size) (zV hts k_1125 v_X10_pairsWithout ⟨Nat.le_of_ble_eq_true rfl, Nat.le_of_ble_eq_true rfl⟩) (pV (pxS hK hP hD [0, 1, 2] (by decide) rfl) hK hP 0 rfl rfl) rfl rfl hl.1 rfl (lv_room (Nat.le_of_ble_eq_true rfl)) dX10_pairsSeen_3 ⟨Nat.le_of_ble_eq_true rfl, Nat.le_of_ble_eq_true rfl⟩) hP hS hA (fun r_3 H locs wr_3 hP hS => ?_)
  exact W.iret (v := r_3) hx hb hr (fun tt9 ht hW => ⟨⟨(r_3 : Int32), (), rfl, trivial, trivial⟩, hS.F ht⟩) hS.2.2 dX10_pairsSeen_6 hlocks

theorem lf_X10_pairsThatMayBe_1 (a : Nat → Nat) (sn : Nat) (sk : Nat) (scu : Int32) (sch : Int32) (ot : Nat → Int32) (hsn : sn ≤ 24) (hsk : sk ≤ 8) : sn ≤ 24 := by
  first | assumption | omega | decide
theorem lf_X10_pairsThatMayBe_2 (a : Nat → Nat) (sn : Nat) (sk : Nat) (scu : Int32) (sch : Int32) (ot : Nat → Int32) (hsn : sn ≤ 24) (hsk : sk ≤ 8) : sk ≤ 8 := by
  first | assumption | omega | decide
set_option maxHeartbeats 4000000 in
set_option maxRecDepth 100000 in
theorem c_X10_pairsThatMayBe (l : Launch) (D : va_G) (cI cB cZ cJ : ClassId) (tx : List (ClassId × FieldType)) (a : Nat → Nat) (sn : Nat) (sk : Nat) (scu : Int32) (sch : Int32) (ot : Nat → Int32) (hsn : sn ≤ 24) (hsk : sk ≤ 8) : RdI l D cI cB cZ cJ tx yX10_pairsThatMayBe cX10_pairsThatMayBe 1 (some .int) 3 [.ref (a 10)] [(a 10, .inr (10, [.ref (a 5), .ref (a 46)])), (a 5, .inr (4, [.ref (a 18), .ref (a 19), .ref (a 20), .ref (a 21), .ref (a 22), .ref (a 23), .ref (a 24), .int (nI sn), .int (nI sk), .int scu, .int sch])), (a 46, .inl (cI, 48, .inl ot))] (fun r => True) := by
  refine rdi_of2 (by decide) (Nat.le_of_ble_eq_true rfl) ?_
  intro p e s m below meth c A ls H locs hC hK hP hD hA hS hl
  obtain ⟨hx, hb, hr, hml, hown, hts, hlocks, hin⟩ := hC
  have hown : s.vm.findClass RX10 = some m.cls := hown
  have hl : lv_has ls 1 [(0, .ref (a 10))] := hl
  refine lv_aload_n hx hb dX10_pairsThatMayBe_0 rfl (lv_at hl 0 rfl) ?_
  refine lv_iconst (v := 0) hx hb dX10_pairsThatMayBe_1 (by decide) ?_
  refine lv_iconst (v := 0) hx hb dX10_pairsThatMayBe_2 (by decide) ?_
  refine eRi (va_runV (As := [.int 0, .int 0]) (rest := []) ⟨hx, hb, hml, hown, hts⟩ (c_X10_pairsWithout l D cI cB cZ cJ tx a sn sk scu sch ot 0 0 (lf_X10_pairsThatMayBe_1 a sn sk scu sch ot hsn hsk) (lf_X10_pairsThatMayBe_2 a sn sk scu sch ot hsn hsk) H.size) (zV hts k_1125 v_X10_pairsWithout ⟨Nat.le_of_ble_eq_true rfl, Nat.le_of_ble_eq_true rfl⟩) (pV (pxS hK hP hD [0, 1, 2] (by decide) rfl) hK hP 0 rfl rfl) rfl rfl hl.1 rfl (lv_room (Nat.le_of_ble_eq_true rfl)) dX10_pairsThatMayBe_3 ⟨Nat.le_of_ble_eq_true rfl, Nat.le_of_ble_eq_true rfl⟩) hP hS hA (fun r_3 H locs wr_3 hP hS => ?_)
  exact W.iret (v := r_3) hx hb hr (fun tt9 ht hW => ⟨⟨(r_3 : Int32), (), rfl, trivial, trivial⟩, hS.F ht⟩) hS.2.2 dX10_pairsThatMayBe_6 hlocks

theorem lf_X10_known_1 (a : Nat → Nat) (sn : Nat) (sk : Nat) (scu : Int32) (sch : Int32) (ot : Nat → Int32) (hsn : sn ≤ 24) (hsk : sk ≤ 8) : sn ≤ 24 := by
  first | assumption | omega | decide
theorem lf_X10_known_2 (a : Nat → Nat) (sn : Nat) (sk : Nat) (scu : Int32) (sch : Int32) (ot : Nat → Int32) (hsn : sn ≤ 24) (hsk : sk ≤ 8) : sk ≤ 8 := by
  first | assumption | omega | decide
set_option maxHeartbeats 4000000 in
set_option maxRecDepth 100000 in
theorem c_X10_known (l : Launch) (D : va_G) (cI cB cZ cJ : ClassId) (tx : List (ClassId × FieldType)) (a : Nat → Nat) (sn : Nat) (sk : Nat) (scu : Int32) (sch : Int32) (ot : Nat → Int32) (hsn : sn ≤ 24) (hsk : sk ≤ 8) : RdI l D cI cB cZ cJ tx yX10_known cX10_known 1 (some .int) 3 [.ref (a 10)] [(a 10, .inr (10, [.ref (a 5), .ref (a 46)])), (a 5, .inr (4, [.ref (a 18), .ref (a 19), .ref (a 20), .ref (a 21), .ref (a 22), .ref (a 23), .ref (a 24), .int (nI sn), .int (nI sk), .int scu, .int sch])), (a 46, .inl (cI, 48, .inl ot))] (fun r => True) := by
  refine rdi_of2 (by decide) (Nat.le_of_ble_eq_true rfl) ?_
  intro p e s m below meth c A ls H locs hC hK hP hD hA hS hl
  obtain ⟨hx, hb, hr, hml, hown, hts, hlocks, hin⟩ := hC
  have hown : s.vm.findClass RX10 = some m.cls := hown
  have hl : lv_has ls 1 [(0, .ref (a 10))] := hl
  refine lv_aload_n hx hb dX10_known_0 rfl (lv_at hl 0 rfl) ?_
  refine lv_iconst (v := 0) hx hb dX10_known_1 (by decide) ?_
  refine eRi (va_runV (As := [.int 0]) (rest := []) ⟨hx, hb, hml, hown, hts⟩ (c_X10_those l D cI cB cZ cJ tx a sn sk scu sch ot 0 (lf_X10_known_1 a sn sk scu sch ot hsn hsk) (lf_X10_known_2 a sn sk scu sch ot hsn hsk) H.size) (zV hts k_1142 v_X10_those ⟨Nat.le_of_ble_eq_true rfl, Nat.le_of_ble_eq_true rfl⟩) (pV (pxS hK hP hD [0, 1, 2] (by decide) rfl) hK hP 0 rfl rfl) rfl rfl hl.1 rfl (lv_room (Nat.le_of_ble_eq_true rfl)) dX10_known_2 ⟨Nat.le_of_ble_eq_true rfl, Nat.le_of_ble_eq_true rfl⟩) hP hS hA (fun r_3 H locs wr_3 hP hS => ?_)
  exact W.iret (v := r_3) hx hb hr (fun tt9 ht hW => ⟨⟨(r_3 : Int32), (), rfl, trivial, trivial⟩, hS.F ht⟩) hS.2.2 dX10_known_5 hlocks

theorem lf_X10_seen_1 (a : Nat → Nat) (sn : Nat) (sk : Nat) (scu : Int32) (sch : Int32) (ot : Nat → Int32) (hsn : sn ≤ 24) (hsk : sk ≤ 8) : sn ≤ 24 := by
  first | assumption | omega | decide
theorem lf_X10_seen_2 (a : Nat → Nat) (sn : Nat) (sk : Nat) (scu : Int32) (sch : Int32) (ot : Nat → Int32) (hsn : sn ≤ 24) (hsk : sk ≤ 8) : sk ≤ 8 := by
  first | assumption | omega | decide
set_option maxHeartbeats 4000000 in
set_option maxRecDepth 100000 in
theorem c_X10_seen (l : Launch) (D : va_G) (cI cB cZ cJ : ClassId) (tx : List (ClassId × FieldType)) (a : Nat → Nat) (sn : Nat) (sk : Nat) (scu : Int32) (sch : Int32) (ot : Nat → Int32) (hsn : sn ≤ 24) (hsk : sk ≤ 8) : RdI l D cI cB cZ cJ tx yX10_seen cX10_seen 1 (some .int) 3 [.ref (a 10)] [(a 10, .inr (10, [.ref (a 5), .ref (a 46)])), (a 5, .inr (4, [.ref (a 18), .ref (a 19), .ref (a 20), .ref (a 21), .ref (a 22), .ref (a 23), .ref (a 24), .int (nI sn), .int (nI sk), .int scu, .int sch])), (a 46, .inl (cI, 48, .inl ot))] (fun r => True) := by
  refine rdi_of2 (by decide) (Nat.le_of_ble_eq_true rfl) ?_
  intro p e s m below meth c A ls H locs hC hK hP hD hA hS hl
  obtain ⟨hx, hb, hr, hml, hown, hts, hlocks, hin⟩ := hC
  have hown : s.vm.findClass RX10 = some m.cls := hown
  have hl : lv_has ls 1 [(0, .ref (a 10))] := hl
  refine lv_aload_n hx hb dX10_seen_0 rfl (lv_at hl 0 rfl) ?_
  refine lv_iconst (v := 1) hx hb dX10_seen_1 (by decide) ?_
  refine eRi (va_runV (As := [.int 1]) (rest := []) ⟨hx, hb, hml, hown, hts⟩ (c_X10_those l D cI cB cZ cJ tx a sn sk scu sch ot 1 (lf_X10_seen_1 a sn sk scu sch ot hsn hsk) (lf_X10_seen_2 a sn sk scu sch ot hsn hsk) H.size) (zV hts k_1142 v_X10_those ⟨Nat.le_of_ble_eq_true rfl, Nat.le_of_ble_eq_true rfl⟩) (pV (pxS hK hP hD [0, 1, 2] (by decide) rfl) hK hP 0 rfl rfl) rfl rfl hl.1 rfl (lv_room (Nat.le_of_ble_eq_true rfl)) dX10_seen_2 ⟨Nat.le_of_ble_eq_true rfl, Nat.le_of_ble_eq_true rfl⟩) hP hS hA (fun r_3 H locs wr_3 hP hS => ?_)
  exact W.iret (v := r_3) hx hb hr (fun tt9 ht hW => ⟨⟨(r_3 : Int32), (), rfl, trivial, trivial⟩, hS.F ht⟩) hS.2.2 dX10_seen_5 hlocks

theorem lf_X10_above_1 (a : Nat → Nat) (sn : Nat) (sk : Nat) (scu : Int32) (sch : Int32) (ot : Nat → Int32) (x1 : Nat) (x2 : Nat) (hsn : sn ≤ 24) (hsk : sk ≤ 8) (hx1 : x1 < 24) (hx2 : x2 < 2) : x1 < 24 := by
  first | assumption | omega | decide
theorem lf_X10_above_2 (a : Nat → Nat) (sn : Nat) (sk : Nat) (scu : Int32) (sch : Int32) (ot : Nat → Int32) (x1 : Nat) (x2 : Nat) (hsn : sn ≤ 24) (hsk : sk ≤ 8) (hx1 : x1 < 24) (hx2 : x2 < 2) : x2 < 2 := by
  first | assumption | omega | decide
theorem lf_X10_above_5 (a : Nat → Nat) (sn : Nat) (sk : Nat) (scu : Int32) (sch : Int32) (ot : Nat → Int32) (x1 : Nat) (x2 : Nat) (hsn : sn ≤ 24) (hsk : sk ≤ 8) (hx1 : x1 < 24) (hx2 : x2 < 2) (r_3 : Int32) (c_4 : r_3 = (-1)) : sn ≤ 24 := by
  first | assumption | omega | decide
theorem lf_X10_above_6 (a : Nat → Nat) (sn : Nat) (sk : Nat) (scu : Int32) (sch : Int32) (ot : Nat → Int32) (x1 : Nat) (x2 : Nat) (hsn : sn ≤ 24) (hsk : sk ≤ 8) (hx1 : x1 < 24) (hx2 : x2 < 2) (r_3 : Int32) (c_4 : r_3 = (-1)) : sk ≤ 8 := by
  first | assumption | omega | decide
set_option maxHeartbeats 4000000 in
set_option maxRecDepth 100000 in
theorem c_X10_above (l : Launch) (D : va_G) (cI cB cZ cJ : ClassId) (tx : List (ClassId × FieldType)) (a : Nat → Nat) (sn : Nat) (sk : Nat) (scu : Int32) (sch : Int32) (ot : Nat → Int32) (x1 : Nat) (x2 : Nat) (hsn : sn ≤ 24) (hsk : sk ≤ 8) (hx1 : x1 < 24) (hx2 : x2 < 2) : RdI l D cI cB cZ cJ tx yX10_above cX10_above 4 (some .int) 4 [.ref (a 10), .int (nI x1), .int (nI x2)] [(a 10, .inr (10, [.ref (a 5), .ref (a 46)])), (a 5, .inr (4, [.ref (a 18), .ref (a 19), .ref (a 20), .ref (a 21), .ref (a 22), .ref (a 23), .ref (a 24), .int (nI sn), .int (nI sk), .int scu, .int sch])), (a 46, .inl (cI, 48, .inl ot))] (fun r => True) := by
  refine rdi_of2 (by decide) (Nat.le_of_ble_eq_true rfl) ?_
  intro p e s m below meth c A ls H locs hC hK hP hD hA hS hl
  obtain ⟨hx, hb, hr, hml, hown, hts, hlocks, hin⟩ := hC
  have hown : s.vm.findClass RX10 = some m.cls := hown
  have hl : lv_has ls 4 [(0, .ref (a 10)), (1, .int (nI x1)), (2, .int (nI x2))] := hl
  refine lv_aload_n hx hb dX10_above_0 rfl (lv_at hl 0 rfl) ?_
  refine lv_iload_n hx hb dX10_above_1 rfl (lv_at hl 1 rfl) ?_
  refine lv_iload_n hx hb dX10_above_2 rfl (lv_at hl 2 rfl) ?_
  refine eRi (va_runV (As := [.int (nI x1), .int (nI x2)]) (rest := []) ⟨hx, hb, hml, hown, hts⟩ (c_X10_at l D cI cB cZ cJ tx a sn sk scu sch ot x1 x2 (lf_X10_above_1 a sn sk scu sch ot x1 x2 hsn hsk hx1 hx2) (lf_X10_above_2 a sn sk scu sch ot x1 x2 hsn hsk hx1 hx2) H.size) (zV hts k_1129 v_X10_at ⟨Nat.le_of_ble_eq_true rfl, Nat.le_of_ble_eq_true rfl⟩) (pV (pxS hK hP hD [0, 1, 2] (by decide) rfl) hK hP 0 rfl rfl) rfl rfl hl.1 rfl (lv_room (Nat.le_of_ble_eq_true rfl)) dX10_above_3 ⟨Nat.le_of_ble_eq_true rfl, Nat.le_of_ble_eq_true rfl⟩) hP hS hA (fun r_3 H locs wr_3 hP hS => ?_)
  refine lv_istore_n (lv' := [(3, .int r_3), (0, .ref (a 10)), (1, .int (nI x1)), (2, .int (nI x2))]) hx hb dX10_above_6 rfl hl (by decide) rfl (fun ls hl => ?_)
  refine lv_iload_n hx hb dX10_above_7 rfl (lv_at hl 0 rfl) ?_
  refine lv_iconst (v := (-1)) hx hb dX10_above_8 (by decide) ?_
  refine lv_icmp_ne (tgt := 19) hx hb dX10_above_9 (by decide) (fun c_4 => ?_) (fun c_4 => ?_)
  · refine lv_iload_n hx hb dX10_above_19 rfl (lv_at hl 0 rfl) ?_
    exact W.iret (v := r_3) hx hb hr (fun tt9 ht hW => ⟨⟨(r_3 : Int32), (), rfl, trivial, trivial⟩, hS.F ht⟩) hS.2.2 dX10_above_20 hlocks
  · refine lv_aload_n hx hb dX10_above_12 rfl (lv_at hl 1 rfl) ?_
    refine eRi (va_runV (As := []) (rest := []) ⟨hx, hb, hml, hown, hts⟩ (c_X10_seen l D cI cB cZ cJ tx a sn sk scu sch ot (lf_X10_above_5 a sn sk scu sch ot x1 x2 hsn hsk hx1 hx2 r_3 c_4) (lf_X10_above_6 a sn sk scu sch ot x1 x2 hsn hsk hx1 hx2 r_3 c_4) H.size) (zV hts k_1159 v_X10_seen ⟨Nat.le_of_ble_eq_true rfl, Nat.le_of_ble_eq_true rfl⟩) (pV (pxS hK hP hD [0, 1, 2] (by decide) rfl) hK hP 0 rfl rfl) rfl rfl hl.1 rfl (lv_room (Nat.le_of_ble_eq_true rfl)) dX10_above_13 ⟨Nat.le_of_ble_eq_true rfl, Nat.le_of_ble_eq_true rfl⟩) hP hS hA (fun r_7 H locs wr_7 hP hS => ?_)
    refine lv_goto (tgt := 20) hx hb dX10_above_16 (by decide) ?_
    exact W.iret (v := r_7) hx hb hr (fun tt9 ht hW => ⟨⟨(r_7 : Int32), (), rfl, trivial, trivial⟩, hS.F ht⟩) hS.2.2 dX10_above_20 hlocks

theorem lf_X10_below_1 (a : Nat → Nat) (sn : Nat) (sk : Nat) (scu : Int32) (sch : Int32) (ot : Nat → Int32) (x1 : Nat) (x2 : Nat) (hsn : sn ≤ 24) (hsk : sk ≤ 8) (hx1 : x1 < 24) (hx2 : x2 < 2) : x1 < 24 := by
  first | assumption | omega | decide
theorem lf_X10_below_2 (a : Nat → Nat) (sn : Nat) (sk : Nat) (scu : Int32) (sch : Int32) (ot : Nat → Int32) (x1 : Nat) (x2 : Nat) (hsn : sn ≤ 24) (hsk : sk ≤ 8) (hx1 : x1 < 24) (hx2 : x2 < 2) : x2 < 2 := by
  first | assumption | omega | decide
theorem lf_X10_below_5 (a : Nat → Nat) (sn : Nat) (sk : Nat) (scu : Int32) (sch : Int32) (ot : Nat → Int32) (x1 : Nat) (x2 : Nat) (hsn : sn ≤ 24) (hsk : sk ≤ 8) (hx1 : x1 < 24) (hx2 : x2 < 2) (r_3 : Int32) (c_4 : r_3 = (-1)) : sn ≤ 24 := by
  first | assumption | omega | decide
theorem lf_X10_below_6 (a : Nat → Nat) (sn : Nat) (sk : Nat) (scu : Int32) (sch : Int32) (ot : Nat → Int32) (x1 : Nat) (x2 : Nat) (hsn : sn ≤ 24) (hsk : sk ≤ 8) (hx1 : x1 < 24) (hx2 : x2 < 2) (r_3 : Int32) (c_4 : r_3 = (-1)) : sk ≤ 8 := by
  first | assumption | omega | decide
set_option maxHeartbeats 4000000 in
set_option maxRecDepth 100000 in
theorem c_X10_below (l : Launch) (D : va_G) (cI cB cZ cJ : ClassId) (tx : List (ClassId × FieldType)) (a : Nat → Nat) (sn : Nat) (sk : Nat) (scu : Int32) (sch : Int32) (ot : Nat → Int32) (x1 : Nat) (x2 : Nat) (hsn : sn ≤ 24) (hsk : sk ≤ 8) (hx1 : x1 < 24) (hx2 : x2 < 2) : RdI l D cI cB cZ cJ tx yX10_below cX10_below 3 (some .int) 4 [.ref (a 10), .int (nI x1), .int (nI x2)] [(a 10, .inr (10, [.ref (a 5), .ref (a 46)])), (a 5, .inr (4, [.ref (a 18), .ref (a 19), .ref (a 20), .ref (a 21), .ref (a 22), .ref (a 23), .ref (a 24), .int (nI sn), .int (nI sk), .int scu, .int sch])), (a 46, .inl (cI, 48, .inl ot))] (fun r => True) := by
  refine rdi_of2 (by decide) (Nat.le_of_ble_eq_true rfl) ?_
  intro p e s m below meth c A ls H locs hC hK hP hD hA hS hl
  obtain ⟨hx, hb, hr, hml, hown, hts, hlocks, hin⟩ := hC
  have hown : s.vm.findClass RX10 = some m.cls := hown
  have hl : lv_has ls 3 [(0, .ref (a 10)), (1, .int (nI x1)), (2, .int (nI x2))] := hl
  refine lv_aload_n hx hb dX10_below_0 rfl (lv_at hl 0 rfl) ?_
  refine lv_iload_n hx hb dX10_below_1 rfl (lv_at hl 1 rfl) ?_
  refine lv_iload_n hx hb dX10_below_2 rfl (lv_at hl 2 rfl) ?_
  refine eRi (va_runV (As := [.int (nI x1), .int (nI x2)]) (rest := []) ⟨hx, hb, hml, hown, hts⟩ (c_X10_at l D cI cB cZ cJ tx a sn sk scu sch ot x1 x2 (lf_X10_below_1 a sn sk scu sch ot x1 x2 hsn hsk hx1 hx2) (lf_X10_below_2 a sn sk scu sch ot x1 x2 hsn hsk hx1 hx2) H.size) (zV hts k_1129 v_X10_at ⟨Nat.le_of_ble_eq_true rfl, Nat.le_of_ble_eq_true rfl⟩) (pV (pxS hK hP hD [0, 1, 2] (by decide) rfl) hK hP 0 rfl rfl) rfl rfl hl.1 rfl (lv_room (Nat.le_of_ble_eq_true rfl)) dX10_below_3 ⟨Nat.le_of_ble_eq_true rfl, Nat.le_of_ble_eq_true rfl⟩) hP hS hA (fun r_3 H locs wr_3 hP hS => ?_)
  refine lv_iconst (v := (-1)) hx hb dX10_below_6 (by decide) ?_
  refine lv_icmp_ne (tgt := 17) hx hb dX10_below_7 (by decide) (fun c_4 => ?_) (fun c_4 => ?_)
  · refine lv_iconst (v := 1) hx hb dX10_below_17 (by decide) ?_
    exact W.iret (v := 1) hx hb hr (fun tt9 ht hW => ⟨⟨(1 : Int32), (), rfl, trivial, trivial⟩, hS.F ht⟩) hS.2.2 dX10_below_18 hlocks
  · refine lv_aload_n hx hb dX10_below_10 rfl (lv_at hl 0 rfl) ?_
    refine eRi (va_runV (As := []) (rest := []) ⟨hx, hb, hml, hown, hts⟩ (c_X10_known l D cI cB cZ cJ tx a sn sk scu sch ot (lf_X10_below_5 a sn sk scu sch ot x1 x2 hsn hsk hx1 hx2 r_3 c_4) (lf_X10_below_6 a sn sk scu sch ot x1 x2 hsn hsk hx1 hx2 r_3 c_4) H.size) (zV hts k_1164 v_X10_known ⟨Nat.le_of_ble_eq_true rfl, Nat.le_of_ble_eq_true rfl⟩) (pV (pxS hK hP hD [0, 1, 2] (by decide) rfl) hK hP 0 rfl rfl) rfl rfl hl.1 rfl (lv_room (Nat.le_of_ble_eq_true rfl)) dX10_below_11 ⟨Nat.le_of_ble_eq_true rfl, Nat.le_of_ble_eq_true rfl⟩) hP hS hA (fun r_7 H locs wr_7 hP hS => ?_)
    refine lv_goto (tgt := 18) hx hb dX10_below_14 (by decide) ?_
    exact W.iret (v := r_7) hx hb hr (fun tt9 ht hW => ⟨⟨(r_7 : Int32), (), rfl, trivial, trivial⟩, hS.F ht⟩) hS.2.2 dX10_below_18 hlocks

theorem lf_X6_put_2 (a : Nat → Nat) (bc : Int32) (br : Int32) (bm : Int32) (ba : Int32) (bp : Int32) (pc_ : Nat → Int32) (x1 : Nat) (x2 : Nat) (n3 : Int32) (hx1 : x1 ≤ 11) (hx2 : x2 ≤ 5) : vp_in (nI ((x2 * 12) + x1)) 72 := by
  first | exact vp_in_nI (by omega) (by decide) | (unfold vp_in; decide)
set_option maxHeartbeats 4000000 in
set_option maxRecDepth 100000 in
theorem c_X6_put (l : Launch) (D : va_G) (cI cB cZ cJ : ClassId) (tx : List (ClassId × FieldType)) (a : Nat → Nat) (bc : Int32) (br : Int32) (bm : Int32) (ba : Int32) (bp : Int32) (pc_ : Nat → Int32) (x1 : Nat) (x2 : Nat) (n3 : Int32) (hx1 : x1 ≤ 11) (hx2 : x2 ≤ 5) : WrV l D cI cB cZ cJ tx yX6_put cX6_put 4 none 0 0 0 [.ref (a 11), .int (nI x1), .int (nI x2), .int n3] [(a 11, .inr (6, [.ref (a 47), .int bc, .int br, .int bm, .int ba, .int bp])), (a 47, .inl (cI, 72, .inl pc_))] (fun (v : (Nat → Int32)) => True) (fun v => [(a 11, .inr (6, [.ref (a 47), .int bc, .int br, .int bm, .int ba, .int bp])), (a 47, .inl (cI, 72, .inl v))]) := by
  refine wrv_of2 (by decide) (Nat.le_of_ble_eq_true rfl) ?_
  intro p e s m below meth c A ls H locs hC hK hP hD hA hS hl
  obtain ⟨hx, hb, hr, hml, hown, hts, hlocks, hin⟩ := hC
  have hown : s.vm.findClass RX6 = some m.cls := hown
  have hl : lv_has ls 4 [(0, .ref (a 11)), (1, .int (nI x1)), (2, .int (nI x2)), (3, .int n3)] := hl
  refine lv_aload_n hx hb dX6_put_0 rfl (lv_at hl 0 rfl) ?_
  refine va_get (D := D) (ci := 6) (v := .ref (a 47)) (C := RX6) (T := TX6) (N := 6) hx hb hts inT_X6 hown hK.1 hP 0 rfl rfl 0 (by decide) (hts _ k_441) (fun _ h9 => h9) rfl dX6_put_1 ?_
  refine lv_iload_n hx hb dX6_put_4 rfl (lv_at hl 2 rfl) ?_
  refine lv_bipush (v := 12) hx hb dX6_put_5 (by decide) ?_
  refine lv_imul hx hb dX6_put_7 ?_
  refine lv_topv (y := nI (x2 * 12)) (pk_mul x2 12) ?_
  refine lv_iload_n hx hb dX6_put_8 rfl (lv_at hl 1 rfl) ?_
  refine lv_iadd hx hb dX6_put_9 ?_
  refine lv_topv (y := nI ((x2 * 12) + x1)) (nI_add (x2 * 12) x1) ?_
  refine lv_iload_n hx hb dX6_put_10 rfl (lv_at hl 3 rfl) ?_
  refine st_i hx hb hK hP hD hS 1 rfl (lf_X6_put_2 a bc br bm ba bp pc_ x1 x2 n3 hx1 hx2) dX6_put_11 (fun f_1 H locs hP hD hS => ?_)
  have hP : va_P D vwCl [(a 11, .inr (6, [.ref (a 47), .int bc, .int br, .int bm, .int ba, .int bp])), (a 47, .inl (cI, 72, .inl f_1))] H := hP
  have hD : va_D A [(a 11, .inr (6, [.ref (a 47), .int bc, .int br, .int bm, .int ba, .int bp])), (a 47, .inl (cI, 72, .inl f_1))] := hD
  exact W.vret hx hb hr (fun tt9 ht hW => ⟨⟨((f_1 : Nat → Int32)), rfl, trivial, ⟨by rw [ht]; exact hP, hD⟩⟩, hS.F ht⟩) hS.2.2 dX6_put_12 hlocks

set_option maxHeartbeats 4000000 in
set_option maxRecDepth 100000 in
theorem c_X6_weigh (l : Launch) (D : va_G) (cI cB cZ cJ : ClassId) (tx : List (ClassId × FieldType)) (a : Nat → Nat) (bc : Int32) (br : Int32) (bm : Int32) (ba : Int32) (bp : Int32) (n1 : Int32) (n2 : Int32) (n3 : Int32) : WrV l D cI cB cZ cJ tx yX6_weigh cX6_weigh 4 none 0 0 0 [.ref (a 11), .int n1, .int n2, .int n3] [(a 11, .inr (6, [.ref (a 47), .int bc, .int br, .int bm, .int ba, .int bp]))] (fun (v : (Int32) × (Int32) × (Int32) × (Int32) × (Int32)) => True) (fun v => [(a 11, .inr (6, [.ref (a 47), .int v.1, .int v.2.1, .int v.2.2.1, .int v.2.2.2.1, .int v.2.2.2.2]))]) := by
  refine wrv_of2 (by decide) (Nat.le_of_ble_eq_true rfl) ?_
  intro p e s m below meth c A ls H locs hC hK hP hD hA hS hl
  obtain ⟨hx, hb, hr, hml, hown, hts, hlocks, hin⟩ := hC
  have hown : s.vm.findClass RX6 = some m.cls := hown
  have hl : lv_has ls 4 [(0, .ref (a 11)), (1, .int n1), (2, .int n2), (3, .int n3)] := hl
  refine lv_aload_n hx hb dX6_weigh_0 rfl (lv_at hl 0 rfl) ?_
  refine lv_dup hx hb dX6_weigh_1 rfl ?_
  refine va_get (D := D) (ci := 6) (v := .int bp) (C := RX6) (T := TX6) (N := 6) hx hb hts inT_X6 hown hK.1 hP 0 rfl rfl 5 (by decide) (hts _ k_450) (fun _ h9 => h9) rfl dX6_weigh_2 ?_
  refine lv_iconst (v := 1) hx hb dX6_weigh_5 (by decide) ?_
  refine lv_iadd hx hb dX6_weigh_6 ?_
  refine lv_topi (fun x_1 ex_1 => ?_)
  refine va_put (D := D) (ci := 6) (v := .int x_1) (ty := .int) (C := RX6) (T := TX6) (N := 6) hx hb hts inT_X6 tyX6 tyX6_ok nmX6 hown hK.1 hP hD hS 0 rfl rfl 5 (by decide) (hts _ k_450) (fun _ h9 => h9) rfl (by decide +kernel) rfl rfl (Nat.le_of_ble_eq_true rfl) dX6_weigh_7 (fun H locs hP hD hS => ?_)
  have hP : va_P D vwCl [(a 11, .inr (6, [.ref (a 47), .int bc, .int br, .int bm, .int ba, .int x_1]))] H := hP
  have hD : va_D A [(a 11, .inr (6, [.ref (a 47), .int bc, .int br, .int bm, .int ba, .int x_1]))] := hD
  refine lv_iload_n hx hb dX6_weigh_10 rfl (lv_at hl 3 rfl) ?_
  refine lv_aload_n hx hb dX6_weigh_11 rfl (lv_at hl 0 rfl) ?_
  refine va_get (D := D) (ci := 6) (v := .int bm) (C := RX6) (T := TX6) (N := 6) hx hb hts inT_X6 hown hK.1 hP 0 rfl rfl 3 (by decide) (hts _ k_446) (fun _ h9 => h9) rfl dX6_weigh_12 ?_
  refine lv_icmp_le (tgt := 38) hx hb dX6_weigh_15 (by decide) (fun c_2 => ?_) (fun c_2 => ?_)
  · refine lv_aload_n hx hb dX6_weigh_38 rfl (lv_at hl 0 rfl) ?_
    refine lv_dup hx hb dX6_weigh_39 rfl ?_
    refine va_get (D := D) (ci := 6) (v := .int ba) (C := RX6) (T := TX6) (N := 6) hx hb hts inT_X6 hown hK.1 hP 0 rfl rfl 4 (by decide) (hts _ k_448) (fun _ h9 => h9) rfl dX6_weigh_40 ?_
    refine lv_iload_n hx hb dX6_weigh_43 rfl (lv_at hl 3 rfl) ?_
    refine lv_aload_n hx hb dX6_weigh_44 rfl (lv_at hl 0 rfl) ?_
    refine va_get (D := D) (ci := 6) (v := .int bm) (C := RX6) (T := TX6) (N := 6) hx hb hts inT_X6 hown hK.1 hP 0 rfl rfl 3 (by decide) (hts _ k_446) (fun _ h9 => h9) rfl dX6_weigh_45 ?_
    refine lv_icmp_ne (tgt := 55) hx hb dX6_weigh_48 (by decide) (fun c_3 => ?_) (fun c_3 => ?_)
    · refine lv_iconst (v := 0) hx hb dX6_weigh_55 (by decide) ?_
      refine lv_iadd hx hb dX6_weigh_56 ?_
      refine lv_topi (fun x_4 ex_4 => ?_)
      refine va_put (D := D) (ci := 6) (v := .int x_4) (ty := .int) (C := RX6) (T := TX6) (N := 6) hx hb hts inT_X6 tyX6 tyX6_ok nmX6 hown hK.1 hP hD hS 0 rfl rfl 4 (by decide) (hts _ k_448) (fun _ h9 => h9) rfl (by decide +kernel) rfl rfl (Nat.le_of_ble_eq_true rfl) dX6_weigh_57 (fun H locs hP hD hS => ?_)
      have hP : va_P D vwCl [(a 11, .inr (6, [.ref (a 47), .int bc, .int br, .int bm, .int x_4, .int x_1]))] H := hP
      have hD : va_D A [(a 11, .inr (6, [.ref (a 47), .int bc, .int br, .int bm, .int x_4, .int x_1]))] := hD
      exact W.vret hx hb hr (fun tt9 ht hW => ⟨⟨((bc : Int32), (br : Int32), (bm : Int32), (x_4 : Int32), (x_1 : Int32)), rfl, trivial, ⟨by rw [ht]; exact hP, hD⟩⟩, hS.F ht⟩) hS.2.2 dX6_weigh_60 hlocks
    · refine lv_iconst (v := 1) hx hb dX6_weigh_51 (by decide) ?_
      refine lv_goto (tgt := 56) hx hb dX6_weigh_52 (by decide) ?_
      refine lv_iadd hx hb dX6_weigh_56 ?_
      refine lv_topi (fun x_5 ex_5 => ?_)
      refine va_put (D := D) (ci := 6) (v := .int x_5) (ty := .int) (C := RX6) (T := TX6) (N := 6) hx hb hts inT_X6 tyX6 tyX6_ok nmX6 hown hK.1 hP hD hS 0 rfl rfl 4 (by decide) (hts _ k_448) (fun _ h9 => h9) rfl (by decide +kernel) rfl rfl (Nat.le_of_ble_eq_true rfl) dX6_weigh_57 (fun H locs hP hD hS => ?_)
      have hP : va_P D vwCl [(a 11, .inr (6, [.ref (a 47), .int bc, .int br, .int bm, .int x_5, .int x_1]))] H := hP
      have hD : va_D A [(a 11, .inr (6, [.ref (a 47), .int bc, .int br, .int bm, .int x_5, .int x_1]))] := hD
      exact W.vret hx hb hr (fun tt9 ht hW => ⟨⟨((bc : Int32), (br : Int32), (bm : Int32), (x_5 : Int32), (x_1 : Int32)), rfl, trivial, ⟨by rw [ht]; exact hP, hD⟩⟩, hS.F ht⟩) hS.2.2 dX6_weigh_60 hlocks
  · refine lv_aload_n hx hb dX6_weigh_18 rfl (lv_at hl 0 rfl) ?_
    refine lv_iload_n hx hb dX6_weigh_19 rfl (lv_at hl 3 rfl) ?_
    refine va_put (D := D) (ci := 6) (v := .int n3) (ty := .int) (C := RX6) (T := TX6) (N := 6) hx hb hts inT_X6 tyX6 tyX6_ok nmX6 hown hK.1 hP hD hS 0 rfl rfl 3 (by decide) (hts _ k_446) (fun _ h9 => h9) rfl (by decide +kernel) rfl rfl (Nat.le_of_ble_eq_true rfl) dX6_weigh_20 (fun H locs hP hD hS => ?_)
    have hP : va_P D vwCl [(a 11, .inr (6, [.ref (a 47), .int bc, .int br, .int n3, .int ba, .int x_1]))] H := hP
    have hD : va_D A [(a 11, .inr (6, [.ref (a 47), .int bc, .int br, .int n3, .int ba, .int x_1]))] := hD
    refine lv_aload_n hx hb dX6_weigh_23 rfl (lv_at hl 0 rfl) ?_
    refine lv_iload_n hx hb dX6_weigh_24 rfl (lv_at hl 1 rfl) ?_
    refine va_put (D := D) (ci := 6) (v := .int n1) (ty := .int) (C := RX6) (T := TX6) (N := 6) hx hb hts inT_X6 tyX6 tyX6_ok nmX6 hown hK.1 hP hD hS 0 rfl rfl 1 (by decide) (hts _ k_442) (fun _ h9 => h9) rfl (by decide +kernel) rfl rfl (Nat.le_of_ble_eq_true rfl) dX6_weigh_25 (fun H locs hP hD hS => ?_)
    have hP : va_P D vwCl [(a 11, .inr (6, [.ref (a 47), .int n1, .int br, .int n3, .int ba, .int x_1]))] H := hP
    have hD : va_D A [(a 11, .inr (6, [.ref (a 47), .int n1, .int br, .int n3, .int ba, .int x_1]))] := hD
    refine lv_aload_n hx hb dX6_weigh_28 rfl (lv_at hl 0 rfl) ?_
    refine lv_iload_n hx hb dX6_weigh_29 rfl (lv_at hl 2 rfl) ?_
    refine va_put (D := D) (ci := 6) (v := .int n2) (ty := .int) (C := RX6) (T := TX6) (N := 6) hx hb hts inT_X6 tyX6 tyX6_ok nmX6 hown hK.1 hP hD hS 0 rfl rfl 2 (by decide) (hts _ k_444) (fun _ h9 => h9) rfl (by decide +kernel) rfl rfl (Nat.le_of_ble_eq_true rfl) dX6_weigh_30 (fun H locs hP hD hS => ?_)
    have hP : va_P D vwCl [(a 11, .inr (6, [.ref (a 47), .int n1, .int n2, .int n3, .int ba, .int x_1]))] H := hP
    have hD : va_D A [(a 11, .inr (6, [.ref (a 47), .int n1, .int n2, .int n3, .int ba, .int x_1]))] := hD
    refine lv_aload_n hx hb dX6_weigh_33 rfl (lv_at hl 0 rfl) ?_
    refine lv_iconst (v := 0) hx hb dX6_weigh_34 (by decide) ?_
    refine va_put (D := D) (ci := 6) (v := .int 0) (ty := .int) (C := RX6) (T := TX6) (N := 6) hx hb hts inT_X6 tyX6 tyX6_ok nmX6 hown hK.1 hP hD hS 0 rfl rfl 4 (by decide) (hts _ k_448) (fun _ h9 => h9) rfl (by decide +kernel) rfl rfl (Nat.le_of_ble_eq_true rfl) dX6_weigh_35 (fun H locs hP hD hS => ?_)
    have hP : va_P D vwCl [(a 11, .inr (6, [.ref (a 47), .int n1, .int n2, .int n3, .int 0, .int x_1]))] H := hP
    have hD : va_D A [(a 11, .inr (6, [.ref (a 47), .int n1, .int n2, .int n3, .int 0, .int x_1]))] := hD
    refine lv_aload_n hx hb dX6_weigh_38 rfl (lv_at hl 0 rfl) ?_
    refine lv_dup hx hb dX6_weigh_39 rfl ?_
    refine va_get (D := D) (ci := 6) (v := .int 0) (C := RX6) (T := TX6) (N := 6) hx hb hts inT_X6 hown hK.1 hP 0 rfl rfl 4 (by decide) (hts _ k_448) (fun _ h9 => h9) rfl dX6_weigh_40 ?_
    refine lv_iload_n hx hb dX6_weigh_43 rfl (lv_at hl 3 rfl) ?_
    refine lv_aload_n hx hb dX6_weigh_44 rfl (lv_at hl 0 rfl) ?_
    refine va_get (D := D) (ci := 6) (v := .int n3) (C := RX6) (T := TX6) (N := 6) hx hb hts inT_X6 hown hK.1 hP 0 rfl rfl 3 (by decide) (hts _ k_446) (fun _ h9 => h9) rfl dX6_weigh_45 ?_
    refine lv_icmp_ne (tgt := 55) hx hb dX6_weigh_48 (by decide) (fun c_6 => ?_) (fun c_6 => ?_)
    · refine lv_iconst (v := 0) hx hb dX6_weigh_55 (by decide) ?_
      refine lv_iadd hx hb dX6_weigh_56 ?_
      refine lv_topv (y := 0) (by decide) ?_
      refine va_put (D := D) (ci := 6) (v := .int 0) (ty := .int) (C := RX6) (T := TX6) (N := 6) hx hb hts inT_X6 tyX6 tyX6_ok nmX6 hown hK.1 hP hD hS 0 rfl rfl 4 (by decide) (hts _ k_448) (fun _ h9 => h9) rfl (by decide +kernel) rfl rfl (Nat.le_of_ble_eq_true rfl) dX6_weigh_57 (fun H locs hP hD hS => ?_)
      have hP : va_P D vwCl [(a 11, .inr (6, [.ref (a 47), .int n1, .int n2, .int n3, .int 0, .int x_1]))] H := hP
      have hD : va_D A [(a 11, .inr (6, [.ref (a 47), .int n1, .int n2, .int n3, .int 0, .int x_1]))] := hD
      exact W.vret hx hb hr (fun tt9 ht hW => ⟨⟨((n1 : Int32), (n2 : Int32), (n3 : Int32), (0 : Int32), (x_1 : Int32)), rfl, trivial, ⟨by rw [ht]; exact hP, hD⟩⟩, hS.F ht⟩) hS.2.2 dX6_weigh_60 hlocks
    · refine lv_iconst (v := 1) hx hb dX6_weigh_51 (by decide) ?_
      refine lv_goto (tgt := 56) hx hb dX6_weigh_52 (by decide) ?_
      refine lv_iadd hx hb dX6_weigh_56 ?_
      refine lv_topv (y := 1) (by decide) ?_
      refine va_put (D := D) (ci := 6) (v := .int 1) (ty := .int) (C := RX6) (T := TX6) (N := 6) hx hb hts inT_X6 tyX6 tyX6_ok nmX6 hown hK.1 hP hD hS 0 rfl rfl 4 (by decide) (hts _ k_448) (fun _ h9 => h9) rfl (by decide +kernel) rfl rfl (Nat.le_of_ble_eq_true rfl) dX6_weigh_57 (fun H locs hP hD hS => ?_)
      have hP : va_P D vwCl [(a 11, .inr (6, [.ref (a 47), .int n1, .int n2, .int n3, .int 1, .int x_1]))] H := hP
      have hD : va_D A [(a 11, .inr (6, [.ref (a 47), .int n1, .int n2, .int n3, .int 1, .int x_1]))] := hD
      exact W.vret hx hb hr (fun tt9 ht hW => ⟨⟨((n1 : Int32), (n2 : Int32), (n3 : Int32), (1 : Int32), (x_1 : Int32)), rfl, trivial, ⟨by rw [ht]; exact hP, hD⟩⟩, hS.F ht⟩) hS.2.2 dX6_weigh_60 hlocks

theorem lf_X6_amount_3 (a : Nat → Nat) (bc : Int32) (br : Int32) (bm : Int32) (ba : Int32) (bp : Int32) (pc_ : Nat → Int32) (c0 : Nat) (r0 : Nat) (w0 : Nat) (h0 : Nat) (hw : c0 + w0 ≤ 12) (hh : r0 + h0 ≤ 6) (j1 : Nat) (w1 : Int32) (k6 : Nat) (hj6 : j1 ≤ (r0 + h0)) (hk6 : (r0 + h0) < j1 + (k6 + 1)) (c_1 : nI (r0 + h0) ≤ nI j1) : (r0 + h0) ≤ j1 := by
  exact (nI_leI (a := (r0 + h0)) (b := j1) (by omega) (by omega)).mp c_1
theorem lf_X6_amount_5 (a : Nat → Nat) (bc : Int32) (br : Int32) (bm : Int32) (ba : Int32) (bp : Int32) (pc_ : Nat → Int32) (c0 : Nat) (r0 : Nat) (w0 : Nat) (h0 : Nat) (hw : c0 + w0 ≤ 12) (hh : r0 + h0 ≤ 6) (j1 : Nat) (w1 : Int32) (k6 : Nat) (hj6 : j1 ≤ (r0 + h0)) (hk6 : (r0 + h0) < j1 + (k6 + 1)) (c_1 : ¬ nI (r0 + h0) ≤ nI j1) : j1 < (r0 + h0) := by
  exact Nat.lt_of_not_le (fun q => c_1 ((nI_leI (a := (r0 + h0)) (b := j1) (by omega) (by omega)).mpr q))
theorem lf_X6_amount_8 (a : Nat → Nat) (bc : Int32) (br : Int32) (bm : Int32) (ba : Int32) (bp : Int32) (pc_ : Nat → Int32) (c0 : Nat) (r0 : Nat) (w0 : Nat) (h0 : Nat) (hw : c0 + w0 ≤ 12) (hh : r0 + h0 ≤ 6) (j1 : Nat) (w1 : Int32) (k6 : Nat) (hj6 : j1 ≤ (r0 + h0)) (hk6 : (r0 + h0) < j1 + (k6 + 1)) (c_1 : ¬ nI (r0 + h0) ≤ nI j1) (n_4 : j1 < (r0 + h0)) (j2 : Nat) (w2 : Int32) (k18 : Nat) (hj18 : j2 ≤ (c0 + w0)) (hk18 : (c0 + w0) < j2 + (k18 + 1)) (c_6 : nI (c0 + w0) ≤ nI j2) : (c0 + w0) ≤ j2 := by
  exact (nI_leI (a := (c0 + w0)) (b := j2) (by omega) (by omega)).mp c_6
theorem lf_X6_amount_10 (a : Nat → Nat) (bc : Int32) (br : Int32) (bm : Int32) (ba : Int32) (bp : Int32) (pc_ : Nat → Int32) (c0 : Nat) (r0 : Nat) (w0 : Nat) (h0 : Nat) (hw : c0 + w0 ≤ 12) (hh : r0 + h0 ≤ 6) (j1 : Nat) (w1 : Int32) (k6 : Nat) (hj6 : j1 ≤ (r0 + h0)) (hk6 : (r0 + h0) < j1 + (k6 + 1)) (c_1 : ¬ nI (r0 + h0) ≤ nI j1) (n_4 : j1 < (r0 + h0)) (j2 : Nat) (w2 : Int32) (k18 : Nat) (hj18 : j2 ≤ (c0 + w0)) (hk18 : (c0 + w0) < j2 + (k18 + 1)) (c_6 : ¬ nI (c0 + w0) ≤ nI j2) : j2 < (c0 + w0) := by
  exact Nat.lt_of_not_le (fun q => c_6 ((nI_leI (a := (c0 + w0)) (b := j2) (by omega) (by omega)).mpr q))
theorem lf_X6_amount_11 (a : Nat → Nat) (bc : Int32) (br : Int32) (bm : Int32) (ba : Int32) (bp : Int32) (pc_ : Nat → Int32) (c0 : Nat) (r0 : Nat) (w0 : Nat) (h0 : Nat) (hw : c0 + w0 ≤ 12) (hh : r0 + h0 ≤ 6) (j1 : Nat) (w1 : Int32) (k6 : Nat) (hj6 : j1 ≤ (r0 + h0)) (hk6 : (r0 + h0) < j1 + (k6 + 1)) (c_1 : ¬ nI (r0 + h0) ≤ nI j1) (n_4 : j1 < (r0 + h0)) (j2 : Nat) (w2 : Int32) (k18 : Nat) (hj18 : j2 ≤ (c0 + w0)) (hk18 : (c0 + w0) < j2 + (k18 + 1)) (c_6 : ¬ nI (c0 + w0) ≤ nI j2) (n_9 : j2 < (c0 + w0)) : vp_in (nI ((j1 * 12) + j2)) 72 := by
  first | exact vp_in_nI (by omega) (by decide) | (unfold vp_in; decide)
set_option maxHeartbeats 4000000 in
set_option maxRecDepth 100000 in
theorem c_X6_amount (l : Launch) (D : va_G) (cI cB cZ cJ : ClassId) (tx : List (ClassId × FieldType)) (a : Nat → Nat) (bc : Int32) (br : Int32) (bm : Int32) (ba : Int32) (bp : Int32) (pc_ : Nat → Int32) (c0 : Nat) (r0 : Nat) (w0 : Nat) (h0 : Nat) (hw : c0 + w0 ≤ 12) (hh : r0 + h0 ≤ 6) : RdI l D cI cB cZ cJ tx yX6_amount cX6_amount 8 (some .int) 0 [.ref (a 11), .int (nI c0), .int (nI r0), .int (nI w0), .int (nI h0)] [(a 11, .inr (6, [.ref (a 47), .int bc, .int br, .int bm, .int ba, .int bp])), (a 47, .inl (cI, 72, .inl pc_))] (fun r => True) := by
  refine rdi_of2 (by decide) (Nat.le_of_ble_eq_true rfl) ?_
  intro p e s m below meth c A ls H locs hC hK hP hD hA hS hl
  obtain ⟨hx, hb, hr, hml, hown, hts, hlocks, hin⟩ := hC
  have hown : s.vm.findClass RX6 = some m.cls := hown
  have hl : lv_has ls 8 [(0, .ref (a 11)), (1, .int (nI c0)), (2, .int (nI r0)), (3, .int (nI w0)), (4, .int (nI h0))] := hl
  refine lv_iconst (v := 0) hx hb dX6_amount_0 (by decide) ?_
  refine lv_istore (lv' := [(5, .int 0), (0, .ref (a 11)), (1, .int (nI c0)), (2, .int (nI r0)), (3, .int (nI w0)), (4, .int (nI h0))]) hx hb dX6_amount_1 hl (by decide) rfl (fun ls hl => ?_)
  refine lv_iload_n hx hb dX6_amount_3 rfl (lv_at hl 3 rfl) ?_
  refine lv_istore (lv' := [(6, .int (nI r0)), (5, .int 0), (0, .ref (a 11)), (1, .int (nI c0)), (2, .int (nI r0)), (3, .int (nI w0)), (4, .int (nI h0))]) hx hb dX6_amount_4 hl (by decide) rfl (fun ls hl => ?_)
  have lp6 : ∀ (k6 : Nat) (j1 : Nat) (w1 : Int32) (H : Heap) (locs : List Loc) (ls : Array Slot), j1 ≤ (r0 + h0) → (r0 + h0) < j1 + k6 → va_P D vwCl [(a 11, .inr (6, [.ref (a 47), .int bc, .int br, .int bm, .int ba, .int bp])), (a 47, .inl (cI, 72, .inl pc_))] H → va_S A s.heap H locs → lv_has ls 8 [(6, .int (nI j1)), (5, .int w1), (0, .ref (a 11)), (1, .int (nI c0)), (2, .int (nI r0)), (3, .int (nI w0)), (4, .int (nI h0))] → W p l e (rmX 0 0 0) s m ([.ref (a 11), .int (nI c0), .int (nI r0), .int (nI w0), .int (nI h0)] : List Value).toArray below meth c H locs 0 0 (MQ below (va_Qi (fun r (_ : Unit) => (fun r => True) r) (fun _ _ => True) A) ([.ref (a 11), .int (nI c0), .int (nI r0), .int (nI w0), .int (nI h0)] : List Value).toArray s 0 0 A) (F0 m 6 ls []) := by
    intro k6
    induction k6 with
    | zero =>
      intro j1 w1 H locs ls hj6 hk6  hP hS hl
      exact absurd hk6 (by omega)
    | succ k6 ih6 =>
      intro j1 w1 H locs ls hj6 hk6  hP hS hl
      refine lv_iload hx hb dX6_amount_6 (lv_at hl 0 rfl) ?_
      refine lv_iload_n hx hb dX6_amount_8 rfl (lv_at hl 4 rfl) ?_
      refine lv_iload hx hb dX6_amount_9 (lv_at hl 6 rfl) ?_
      refine lv_iadd hx hb dX6_amount_11 ?_
      refine lv_topv (y := nI (r0 + h0)) (nI_add r0 h0) ?_
      refine lv_icmp_ge (tgt := 56) hx hb dX6_amount_12 (by decide) (fun c_1 => ?_) (fun c_1 => ?_)
      · have n_2 : (r0 + h0) ≤ j1 := (lf_X6_amount_3 a bc br bm ba bp pc_ c0 r0 w0 h0 hw hh j1 w1 k6 hj6 hk6 c_1)
        refine lv_iload hx hb dX6_amount_56 (lv_at hl 1 rfl) ?_
        exact W.iret (v := w1) hx hb hr (fun tt9 ht hW => ⟨⟨(w1 : Int32), (), rfl, trivial, trivial⟩, hS.F ht⟩) hS.2.2 dX6_amount_58 hlocks
      · have n_4 : j1 < (r0 + h0) := (lf_X6_amount_5 a bc br bm ba bp pc_ c0 r0 w0 h0 hw hh j1 w1 k6 hj6 hk6 c_1)
        refine lv_iload_n hx hb dX6_amount_15 rfl (lv_at hl 3 rfl) ?_
        refine lv_istore (lv' := [(7, .int (nI c0)), (6, .int (nI j1)), (5, .int w1), (0, .ref (a 11)), (1, .int (nI c0)), (2, .int (nI r0)), (3, .int (nI w0)), (4, .int (nI h0))]) hx hb dX6_amount_16 hl (by decide) rfl (fun ls hl => ?_)
        have lp18 : ∀ (k18 : Nat) (j2 : Nat) (w2 : Int32) (H : Heap) (locs : List Loc) (ls : Array Slot), j2 ≤ (c0 + w0) → (c0 + w0) < j2 + k18 → va_P D vwCl [(a 11, .inr (6, [.ref (a 47), .int bc, .int br, .int bm, .int ba, .int bp])), (a 47, .inl (cI, 72, .inl pc_))] H → va_S A s.heap H locs → lv_has ls 8 [(7, .int (nI j2)), (6, .int (nI j1)), (5, .int w2), (0, .ref (a 11)), (1, .int (nI c0)), (2, .int (nI r0)), (3, .int (nI w0)), (4, .int (nI h0))] → W p l e (rmX 0 0 0) s m ([.ref (a 11), .int (nI c0), .int (nI r0), .int (nI w0), .int (nI h0)] : List Value).toArray below meth c H locs 0 0 (MQ below (va_Qi (fun r (_ : Unit) => (fun r => True) r) (fun _ _ => True) A) ([.ref (a 11), .int (nI c0), .int (nI r0), .int (nI w0), .int (nI h0)] : List Value).toArray s 0 0 A) (F0 m 18 ls []) := by
          intro k18
          induction k18 with
          | zero =>
            intro j2 w2 H locs ls hj18 hk18  hP hS hl
            exact absurd hk18 (by omega)
          | succ k18 ih18 =>
            intro j2 w2 H locs ls hj18 hk18  hP hS hl
            refine lv_iload hx hb dX6_amount_18 (lv_at hl 0 rfl) ?_
            refine lv_iload_n hx hb dX6_amount_20 rfl (lv_at hl 4 rfl) ?_
            refine lv_iload_n hx hb dX6_amount_21 rfl (lv_at hl 6 rfl) ?_
            refine lv_iadd hx hb dX6_amount_22 ?_
            refine lv_topv (y := nI (c0 + w0)) (nI_add c0 w0) ?_
            refine lv_icmp_ge (tgt := 50) hx hb dX6_amount_23 (by decide) (fun c_6 => ?_) (fun c_6 => ?_)
            · have n_7 : (c0 + w0) ≤ j2 := (lf_X6_amount_8 a bc br bm ba bp pc_ c0 r0 w0 h0 hw hh j1 w1 k6 hj6 hk6 c_1 n_4 j2 w2 k18 hj18 hk18 c_6)
              refine lv_iinc (v := nI (j1 + 1)) (lv' := [(6, .int (nI (j1 + 1))), (7, .int (nI j2)), (5, .int w2), (0, .ref (a 11)), (1, .int (nI c0)), (2, .int (nI r0)), (3, .int (nI w0)), (4, .int (nI h0))]) hx hb dX6_amount_50 hl (k := 1) rfl (nI_1 j1) (by decide) rfl (fun ls hl => ?_)
              refine lv_goto (tgt := 6) hx hb dX6_amount_53 (by decide) ?_
              exact ih6 (j1 + 1) w2 H locs ls (by omega) (by omega)  (hP.sub [0, 1] rfl)  hS (lv_sub hl [0, 2, 3, 4, 5, 6, 7] rfl)
            · have n_9 : j2 < (c0 + w0) := (lf_X6_amount_10 a bc br bm ba bp pc_ c0 r0 w0 h0 hw hh j1 w1 k6 hj6 hk6 c_1 n_4 j2 w2 k18 hj18 hk18 c_6)
              refine lv_iload hx hb dX6_amount_26 (lv_at hl 2 rfl) ?_
              refine lv_aload_n hx hb dX6_amount_28 rfl (lv_at hl 3 rfl) ?_
              refine va_get (D := D) (ci := 6) (v := .ref (a 47)) (C := RX6) (T := TX6) (N := 6) hx hb hts inT_X6 hown hK.1 hP 0 rfl rfl 0 (by decide) (hts _ k_441) (fun _ h9 => h9) rfl dX6_amount_29 ?_
              refine lv_iload hx hb dX6_amount_32 (lv_at hl 1 rfl) ?_
              refine lv_bipush (v := 12) hx hb dX6_amount_34 (by decide) ?_
              refine lv_imul hx hb dX6_amount_36 ?_
              refine lv_topv (y := nI (j1 * 12)) (pk_mul j1 12) ?_
              refine lv_iload hx hb dX6_amount_37 (lv_at hl 0 rfl) ?_
              refine lv_iadd hx hb dX6_amount_39 ?_
              refine lv_topv (y := nI ((j1 * 12) + j2)) (nI_add (j1 * 12) j2) ?_
              refine ld_i hx hb hK hP 1 rfl (lf_X6_amount_11 a bc br bm ba bp pc_ c0 r0 w0 h0 hw hh j1 w1 k6 hj6 hk6 c_1 n_4 j2 w2 k18 hj18 hk18 c_6 n_9) dX6_amount_40 (fun x_12 => ?_)
              refine lv_iadd hx hb dX6_amount_41 ?_
              refine lv_topi (fun x_13 ex_13 => ?_)
              refine lv_istore (lv' := [(5, .int x_13), (7, .int (nI j2)), (6, .int (nI j1)), (0, .ref (a 11)), (1, .int (nI c0)), (2, .int (nI r0)), (3, .int (nI w0)), (4, .int (nI h0))]) hx hb dX6_amount_42 hl (by decide) rfl (fun ls hl => ?_)
              refine lv_iinc (v := nI (j2 + 1)) (lv' := [(7, .int (nI (j2 + 1))), (5, .int x_13), (6, .int (nI j1)), (0, .ref (a 11)), (1, .int (nI c0)), (2, .int (nI r0)), (3, .int (nI w0)), (4, .int (nI h0))]) hx hb dX6_amount_44 hl (k := 1) rfl (nI_1 j2) (by decide) rfl (fun ls hl => ?_)
              refine lv_goto (tgt := 18) hx hb dX6_amount_47 (by decide) ?_
              exact ih18 (j2 + 1) x_13 H locs ls (by omega) (by omega)  (hP.sub [0, 1] rfl)  hS (lv_sub hl [0, 2, 1, 3, 4, 5, 6, 7] rfl)
        exact lp18 ((c0 + w0) + 1) c0 w1 H locs ls (by omega) (by omega)  (hP.sub [0, 1] rfl)  hS (lv_sub hl [0, 1, 2, 3, 4, 5, 6, 7] rfl)
  exact lp6 ((r0 + h0) + 1) r0 0 H locs ls (by omega) (by omega)  (hP.sub [0, 1] rfl)  hS (lv_sub hl [0, 1, 2, 3, 4, 5, 6] rfl)

theorem lf_X6_seek_3 (a : Nat → Nat) (bc : Int32) (br : Int32) (bm : Int32) (ba : Int32) (bp : Int32) (pc_ : Nat → Int32) (w0 : Nat) (h0 : Nat) (hw1 : 1 ≤ w0) (hw2 : w0 ≤ 12) (hh1 : 1 ≤ h0) (hh2 : h0 ≤ 6) (j1 : Nat) (bc_j1 : Int32) (br_j1 : Int32) (bm_j1 : Int32) (ba_j1 : Int32) (bp_j1 : Int32) (k17 : Nat) (hj17 : j1 ≤ (7 - h0)) (hk17 : (7 - h0) < j1 + (k17 + 1)) (c_1 : 6 < nI (j1 + h0)) : 6 < (j1 + h0) := by
  exact (nI_ltI (a := 6) (b := (j1 + h0)) (by omega) (by omega)).mp c_1
theorem lf_X6_seek_5 (a : Nat → Nat) (bc : Int32) (br : Int32) (bm : Int32) (ba : Int32) (bp : Int32) (pc_ : Nat → Int32) (w0 : Nat) (h0 : Nat) (hw1 : 1 ≤ w0) (hw2 : w0 ≤ 12) (hh1 : 1 ≤ h0) (hh2 : h0 ≤ 6) (j1 : Nat) (bc_j1 : Int32) (br_j1 : Int32) (bm_j1 : Int32) (ba_j1 : Int32) (bp_j1 : Int32) (k17 : Nat) (hj17 : j1 ≤ (7 - h0)) (hk17 : (7 - h0) < j1 + (k17 + 1)) (c_1 : ¬ 6 < nI (j1 + h0)) : (j1 + h0) ≤ 6 := by
  exact Nat.le_of_not_lt (fun q => c_1 ((nI_ltI (a := 6) (b := (j1 + h0)) (by omega) (by omega)).mpr q))
theorem lf_X6_seek_8 (a : Nat → Nat) (bc : Int32) (br : Int32) (bm : Int32) (ba : Int32) (bp : Int32) (pc_ : Nat → Int32) (w0 : Nat) (h0 : Nat) (hw1 : 1 ≤ w0) (hw2 : w0 ≤ 12) (hh1 : 1 ≤ h0) (hh2 : h0 ≤ 6) (j1 : Nat) (bc_j1 : Int32) (br_j1 : Int32) (bm_j1 : Int32) (ba_j1 : Int32) (bp_j1 : Int32) (k17 : Nat) (hj17 : j1 ≤ (7 - h0)) (hk17 : (7 - h0) < j1 + (k17 + 1)) (c_1 : ¬ 6 < nI (j1 + h0)) (n_4 : (j1 + h0) ≤ 6) (j2 : Nat) (bc_j2 : Int32) (br_j2 : Int32) (bm_j2 : Int32) (ba_j2 : Int32) (bp_j2 : Int32) (k28 : Nat) (hj28 : j2 ≤ (13 - w0)) (hk28 : (13 - w0) < j2 + (k28 + 1)) (c_6 : 12 < nI (j2 + w0)) : 12 < (j2 + w0) := by
  exact (nI_ltI (a := 12) (b := (j2 + w0)) (by omega) (by omega)).mp c_6
theorem lf_X6_seek_10 (a : Nat → Nat) (bc : Int32) (br : Int32) (bm : Int32) (ba : Int32) (bp : Int32) (pc_ : Nat → Int32) (w0 : Nat) (h0 : Nat) (hw1 : 1 ≤ w0) (hw2 : w0 ≤ 12) (hh1 : 1 ≤ h0) (hh2 : h0 ≤ 6) (j1 : Nat) (bc_j1 : Int32) (br_j1 : Int32) (bm_j1 : Int32) (ba_j1 : Int32) (bp_j1 : Int32) (k17 : Nat) (hj17 : j1 ≤ (7 - h0)) (hk17 : (7 - h0) < j1 + (k17 + 1)) (c_1 : ¬ 6 < nI (j1 + h0)) (n_4 : (j1 + h0) ≤ 6) (j2 : Nat) (bc_j2 : Int32) (br_j2 : Int32) (bm_j2 : Int32) (ba_j2 : Int32) (bp_j2 : Int32) (k28 : Nat) (hj28 : j2 ≤ (13 - w0)) (hk28 : (13 - w0) < j2 + (k28 + 1)) (c_6 : ¬ 12 < nI (j2 + w0)) : (j2 + w0) ≤ 12 := by
  exact Nat.le_of_not_lt (fun q => c_6 ((nI_ltI (a := 12) (b := (j2 + w0)) (by omega) (by omega)).mpr q))
theorem lf_X6_seek_11 (a : Nat → Nat) (bc : Int32) (br : Int32) (bm : Int32) (ba : Int32) (bp : Int32) (pc_ : Nat → Int32) (w0 : Nat) (h0 : Nat) (hw1 : 1 ≤ w0) (hw2 : w0 ≤ 12) (hh1 : 1 ≤ h0) (hh2 : h0 ≤ 6) (j1 : Nat) (bc_j1 : Int32) (br_j1 : Int32) (bm_j1 : Int32) (ba_j1 : Int32) (bp_j1 : Int32) (k17 : Nat) (hj17 : j1 ≤ (7 - h0)) (hk17 : (7 - h0) < j1 + (k17 + 1)) (c_1 : ¬ 6 < nI (j1 + h0)) (n_4 : (j1 + h0) ≤ 6) (j2 : Nat) (bc_j2 : Int32) (br_j2 : Int32) (bm_j2 : Int32) (ba_j2 : Int32) (bp_j2 : Int32) (k28 : Nat) (hj28 : j2 ≤ (13 - w0)) (hk28 : (13 - w0) < j2 + (k28 + 1)) (c_6 : ¬ 12 < nI (j2 + w0)) (n_9 : (j2 + w0) ≤ 12) : j2 + w0 ≤ 12 := by
  first | assumption | omega | decide
theorem lf_X6_seek_12 (a : Nat → Nat) (bc : Int32) (br : Int32) (bm : Int32) (ba : Int32) (bp : Int32) (pc_ : Nat → Int32) (w0 : Nat) (h0 : Nat) (hw1 : 1 ≤ w0) (hw2 : w0 ≤ 12) (hh1 : 1 ≤ h0) (hh2 : h0 ≤ 6) (j1 : Nat) (bc_j1 : Int32) (br_j1 : Int32) (bm_j1 : Int32) (ba_j1 : Int32) (bp_j1 : Int32) (k17 : Nat) (hj17 : j1 ≤ (7 - h0)) (hk17 : (7 - h0) < j1 + (k17 + 1)) (c_1 : ¬ 6 < nI (j1 + h0)) (n_4 : (j1 + h0) ≤ 6) (j2 : Nat) (bc_j2 : Int32) (br_j2 : Int32) (bm_j2 : Int32) (ba_j2 : Int32) (bp_j2 : Int32) (k28 : Nat) (hj28 : j2 ≤ (13 - w0)) (hk28 : (13 - w0) < j2 + (k28 + 1)) (c_6 : ¬ 12 < nI (j2 + w0)) (n_9 : (j2 + w0) ≤ 12) : j1 + h0 ≤ 6 := by
  first | assumption | omega | decide
set_option maxHeartbeats 4000000 in
set_option maxRecDepth 100000 in
theorem c_X6_seek (l : Launch) (D : va_G) (cI cB cZ cJ : ClassId) (tx : List (ClassId × FieldType)) (a : Nat → Nat) (bc : Int32) (br : Int32) (bm : Int32) (ba : Int32) (bp : Int32) (pc_ : Nat → Int32) (w0 : Nat) (h0 : Nat) (hw1 : 1 ≤ w0) (hw2 : w0 ≤ 12) (hh1 : 1 ≤ h0) (hh2 : h0 ≤ 6) : WrV l D cI cB cZ cJ tx yX6_seek cX6_seek 5 none 1 0 0 [.ref (a 11), .int (nI w0), .int (nI h0)] [(a 11, .inr (6, [.ref (a 47), .int bc, .int br, .int bm, .int ba, .int bp])), (a 47, .inl (cI, 72, .inl pc_))] (fun (v : (Int32) × (Int32) × (Int32) × (Int32) × (Int32)) => True) (fun v => [(a 11, .inr (6, [.ref (a 47), .int v.1, .int v.2.1, .int v.2.2.1, .int v.2.2.2.1, .int v.2.2.2.2])), (a 47, .inl (cI, 72, .inl pc_))]) := by
  refine wrv_of2 (by decide) (Nat.le_of_ble_eq_true rfl) ?_
  intro p e s m below meth c A ls H locs hC hK hP hD hA hS hl
  obtain ⟨hx, hb, hr, hml, hown, hts, hlocks, hin⟩ := hC
  have hown : s.vm.findClass RX6 = some m.cls := hown
  have hl : lv_has ls 5 [(0, .ref (a 11)), (1, .int (nI w0)), (2, .int (nI h0))] := hl
  refine lv_aload_n hx hb dX6_seek_0 rfl (lv_at hl 0 rfl) ?_
  refine lv_iconst (v := (-1)) hx hb dX6_seek_1 (by decide) ?_
  refine va_put (D := D) (ci := 6) (v := .int (-1)) (ty := .int) (C := RX6) (T := TX6) (N := 6) hx hb hts inT_X6 tyX6 tyX6_ok nmX6 hown hK.1 hP hD hS 0 rfl rfl 3 (by decide) (hts _ k_446) (fun _ h9 => h9) rfl (by decide +kernel) rfl rfl (Nat.le_of_ble_eq_true rfl) dX6_seek_2 (fun H locs hP hD hS => ?_)
  have hP : va_P D vwCl [(a 11, .inr (6, [.ref (a 47), .int bc, .int br, .int (-1), .int ba, .int bp])), (a 47, .inl (cI, 72, .inl pc_))] H := hP
  have hD : va_D A [(a 11, .inr (6, [.ref (a 47), .int bc, .int br, .int (-1), .int ba, .int bp])), (a 47, .inl (cI, 72, .inl pc_))] := hD
  refine lv_aload_n hx hb dX6_seek_5 rfl (lv_at hl 0 rfl) ?_
  refine lv_iconst (v := 0) hx hb dX6_seek_6 (by decide) ?_
  refine va_put (D := D) (ci := 6) (v := .int 0) (ty := .int) (C := RX6) (T := TX6) (N := 6) hx hb hts inT_X6 tyX6 tyX6_ok nmX6 hown hK.1 hP hD hS 0 rfl rfl 4 (by decide) (hts _ k_448) (fun _ h9 => h9) rfl (by decide +kernel) rfl rfl (Nat.le_of_ble_eq_true rfl) dX6_seek_7 (fun H locs hP hD hS => ?_)
  have hP : va_P D vwCl [(a 11, .inr (6, [.ref (a 47), .int bc, .int br, .int (-1), .int 0, .int bp])), (a 47, .inl (cI, 72, .inl pc_))] H := hP
  have hD : va_D A [(a 11, .inr (6, [.ref (a 47), .int bc, .int br, .int (-1), .int 0, .int bp])), (a 47, .inl (cI, 72, .inl pc_))] := hD
  refine lv_aload_n hx hb dX6_seek_10 rfl (lv_at hl 0 rfl) ?_
  refine lv_iconst (v := 0) hx hb dX6_seek_11 (by decide) ?_
  refine va_put (D := D) (ci := 6) (v := .int 0) (ty := .int) (C := RX6) (T := TX6) (N := 6) hx hb hts inT_X6 tyX6 tyX6_ok nmX6 hown hK.1 hP hD hS 0 rfl rfl 5 (by decide) (hts _ k_450) (fun _ h9 => h9) rfl (by decide +kernel) rfl rfl (Nat.le_of_ble_eq_true rfl) dX6_seek_12 (fun H locs hP hD hS => ?_)
  have hP : va_P D vwCl [(a 11, .inr (6, [.ref (a 47), .int bc, .int br, .int (-1), .int 0, .int 0])), (a 47, .inl (cI, 72, .inl pc_))] H := hP
  have hD : va_D A [(a 11, .inr (6, [.ref (a 47), .int bc, .int br, .int (-1), .int 0, .int 0])), (a 47, .inl (cI, 72, .inl pc_))] := hD
  refine lv_iconst (v := 0) hx hb dX6_seek_15 (by decide) ?_
  refine lv_istore_n (lv' := [(3, .int 0), (0, .ref (a 11)), (1, .int (nI w0)), (2, .int (nI h0))]) hx hb dX6_seek_16 rfl hl (by decide) rfl (fun ls hl => ?_)
  have lp17 : ∀ (k17 : Nat) (j1 : Nat) (bc_j1 : Int32) (br_j1 : Int32) (bm_j1 : Int32) (ba_j1 : Int32) (bp_j1 : Int32) (H : Heap) (locs : List Loc) (ls : Array Slot), j1 ≤ (7 - h0) → (7 - h0) < j1 + k17 → va_P D vwCl [(a 11, .inr (6, [.ref (a 47), .int bc_j1, .int br_j1, .int bm_j1, .int ba_j1, .int bp_j1])), (a 47, .inl (cI, 72, .inl pc_))] H → va_D A [(a 11, .inr (6, [.ref (a 47), .int bc_j1, .int br_j1, .int bm_j1, .int ba_j1, .int bp_j1])), (a 47, .inl (cI, 72, .inl pc_))] → va_S A s.heap H locs → lv_has ls 5 [(3, .int (nI j1)), (0, .ref (a 11)), (1, .int (nI w0)), (2, .int (nI h0))] → W p l e (rmX 1 0 0) s m ([.ref (a 11), .int (nI w0), .int (nI h0)] : List Value).toArray below meth c H locs 0 0 (MQ below (va_Qv (fun (v : (Int32) × (Int32) × (Int32) × (Int32) × (Int32)) => True) (fun u => BX D A ((fun v => [(a 11, .inr (6, [.ref (a 47), .int v.1, .int v.2.1, .int v.2.2.1, .int v.2.2.2.1, .int v.2.2.2.2])), (a 47, .inl (cI, 72, .inl pc_))]) u)) A) ([.ref (a 11), .int (nI w0), .int (nI h0)] : List Value).toArray s 0 0 A) (F0 m 17 ls []) := by
    intro k17
    induction k17 with
    | zero =>
      intro j1 bc_j1 br_j1 bm_j1 ba_j1 bp_j1 H locs ls hj17 hk17  hP hD hS hl
      exact absurd hk17 (by omega)
    | succ k17 ih17 =>
      intro j1 bc_j1 br_j1 bm_j1 ba_j1 bp_j1 H locs ls hj17 hk17  hP hD hS hl
      refine lv_iload_n hx hb dX6_seek_17 rfl (lv_at hl 0 rfl) ?_
      refine lv_iload_n hx hb dX6_seek_18 rfl (lv_at hl 3 rfl) ?_
      refine lv_iadd hx hb dX6_seek_19 ?_
      refine lv_topv (y := nI (j1 + h0)) (nI_add j1 h0) ?_
      refine lv_bipush (v := 6) hx hb dX6_seek_20 (by decide) ?_
      refine lv_icmp_gt (tgt := 65) hx hb dX6_seek_22 (by decide) (fun c_1 => ?_) (fun c_1 => ?_)
      · have n_2 : 6 < (j1 + h0) := (lf_X6_seek_3 a bc br bm ba bp pc_ w0 h0 hw1 hw2 hh1 hh2 j1 bc_j1 br_j1 bm_j1 ba_j1 bp_j1 k17 hj17 hk17 c_1)
        exact W.vret hx hb hr (fun tt9 ht hW => ⟨⟨((bc_j1 : Int32), (br_j1 : Int32), (bm_j1 : Int32), (ba_j1 : Int32), (bp_j1 : Int32)), rfl, trivial, ⟨by rw [ht]; exact hP, hD⟩⟩, hS.F ht⟩) hS.2.2 dX6_seek_65 hlocks
      · have n_4 : (j1 + h0) ≤ 6 := (lf_X6_seek_5 a bc br bm ba bp pc_ w0 h0 hw1 hw2 hh1 hh2 j1 bc_j1 br_j1 bm_j1 ba_j1 bp_j1 k17 hj17 hk17 c_1)
        refine lv_iconst (v := 0) hx hb dX6_seek_25 (by decide) ?_
        refine lv_istore (lv' := [(4, .int 0), (3, .int (nI j1)), (0, .ref (a 11)), (1, .int (nI w0)), (2, .int (nI h0))]) hx hb dX6_seek_26 hl (by decide) rfl (fun ls hl => ?_)
        have lp28 : ∀ (k28 : Nat) (j2 : Nat) (bc_j2 : Int32) (br_j2 : Int32) (bm_j2 : Int32) (ba_j2 : Int32) (bp_j2 : Int32) (H : Heap) (locs : List Loc) (ls : Array Slot), j2 ≤ (13 - w0) → (13 - w0) < j2 + k28 → va_P D vwCl [(a 11, .inr (6, [.ref (a 47), .int bc_j2, .int br_j2, .int bm_j2, .int ba_j2, .int bp_j2])), (a 47, .inl (cI, 72, .inl pc_))] H → va_D A [(a 11, .inr (6, [.ref (a 47), .int bc_j2, .int br_j2, .int bm_j2, .int ba_j2, .int bp_j2])), (a 47, .inl (cI, 72, .inl pc_))] → va_S A s.heap H locs → lv_has ls 5 [(4, .int (nI j2)), (3, .int (nI j1)), (0, .ref (a 11)), (1, .int (nI w0)), (2, .int (nI h0))] → W p l e (rmX 1 0 0) s m ([.ref (a 11), .int (nI w0), .int (nI h0)] : List Value).toArray below meth c H locs 0 0 (MQ below (va_Qv (fun (v : (Int32) × (Int32) × (Int32) × (Int32) × (Int32)) => True) (fun u => BX D A ((fun v => [(a 11, .inr (6, [.ref (a 47), .int v.1, .int v.2.1, .int v.2.2.1, .int v.2.2.2.1, .int v.2.2.2.2])), (a 47, .inl (cI, 72, .inl pc_))]) u)) A) ([.ref (a 11), .int (nI w0), .int (nI h0)] : List Value).toArray s 0 0 A) (F0 m 28 ls []) := by
          intro k28
          induction k28 with
          | zero =>
            intro j2 bc_j2 br_j2 bm_j2 ba_j2 bp_j2 H locs ls hj28 hk28  hP hD hS hl
            exact absurd hk28 (by omega)
          | succ k28 ih28 =>
            intro j2 bc_j2 br_j2 bm_j2 ba_j2 bp_j2 H locs ls hj28 hk28  hP hD hS hl
            refine lv_iload hx hb dX6_seek_28 (lv_at hl 0 rfl) ?_
            refine lv_iload_n hx hb dX6_seek_30 rfl (lv_at hl 3 rfl) ?_
            refine lv_iadd hx hb dX6_seek_31 ?_
            refine lv_topv (y := nI (j2 + w0)) (nI_add j2 w0) ?_
            refine lv_bipush (v := 12) hx hb dX6_seek_32 (by decide) ?_
            refine lv_icmp_gt (tgt := 59) hx hb dX6_seek_34 (by decide) (fun c_6 => ?_) (fun c_6 => ?_)
            · have n_7 : 12 < (j2 + w0) := (lf_X6_seek_8 a bc br bm ba bp pc_ w0 h0 hw1 hw2 hh1 hh2 j1 bc_j1 br_j1 bm_j1 ba_j1 bp_j1 k17 hj17 hk17 c_1 n_4 j2 bc_j2 br_j2 bm_j2 ba_j2 bp_j2 k28 hj28 hk28 c_6)
              refine lv_iinc (v := nI (j1 + 1)) (lv' := [(3, .int (nI (j1 + 1))), (4, .int (nI j2)), (0, .ref (a 11)), (1, .int (nI w0)), (2, .int (nI h0))]) hx hb dX6_seek_59 hl (k := 1) rfl (nI_1 j1) (by decide) rfl (fun ls hl => ?_)
              refine lv_goto (tgt := 17) hx hb dX6_seek_62 (by decide) ?_
              exact ih17 (j1 + 1) bc_j2 br_j2 bm_j2 ba_j2 bp_j2 H locs ls (by omega) (by omega)  (hP.sub [0, 1] rfl) (hD.sub [0, 1] (by decide) rfl) hS (lv_sub hl [0, 2, 3, 4] rfl)
            · have n_9 : (j2 + w0) ≤ 12 := (lf_X6_seek_10 a bc br bm ba bp pc_ w0 h0 hw1 hw2 hh1 hh2 j1 bc_j1 br_j1 bm_j1 ba_j1 bp_j1 k17 hj17 hk17 c_1 n_4 j2 bc_j2 br_j2 bm_j2 ba_j2 bp_j2 k28 hj28 hk28 c_6)
              refine lv_aload_n hx hb dX6_seek_37 rfl (lv_at hl 2 rfl) ?_
              refine lv_iload hx hb dX6_seek_38 (lv_at hl 0 rfl) ?_
              refine lv_iload_n hx hb dX6_seek_40 rfl (lv_at hl 1 rfl) ?_
              refine lv_aload_n hx hb dX6_seek_41 rfl (lv_at hl 2 rfl) ?_
              refine lv_iload hx hb dX6_seek_42 (lv_at hl 0 rfl) ?_
              refine lv_iload_n hx hb dX6_seek_44 rfl (lv_at hl 1 rfl) ?_
              refine lv_iload_n hx hb dX6_seek_45 rfl (lv_at hl 3 rfl) ?_
              refine lv_iload_n hx hb dX6_seek_46 rfl (lv_at hl 4 rfl) ?_
              refine eRi (va_runV (As := [.int (nI j2), .int (nI j1), .int (nI w0), .int (nI h0)]) (rest := [.int (nI j1), .int (nI j2), .ref (a 11)]) ⟨hx, hb, hml, hown, hts⟩ (c_X6_amount l D cI cB cZ cJ tx a bc_j2 br_j2 bm_j2 ba_j2 bp_j2 pc_ j2 j1 w0 h0 (lf_X6_seek_11 a bc br bm ba bp pc_ w0 h0 hw1 hw2 hh1 hh2 j1 bc_j1 br_j1 bm_j1 ba_j1 bp_j1 k17 hj17 hk17 c_1 n_4 j2 bc_j2 br_j2 bm_j2 ba_j2 bp_j2 k28 hj28 hk28 c_6 n_9) (lf_X6_seek_12 a bc br bm ba bp pc_ w0 h0 hw1 hw2 hh1 hh2 j1 bc_j1 br_j1 bm_j1 ba_j1 bp_j1 k17 hj17 hk17 c_1 n_4 j2 bc_j2 br_j2 bm_j2 ba_j2 bp_j2 k28 hj28 hk28 c_6 n_9) H.size) (zV hts k_1181 v_X6_amount ⟨Nat.le_of_ble_eq_true rfl, Nat.le_of_ble_eq_true rfl⟩) (pV (pxS hK hP hD [0, 1] (by decide) rfl) hK hP 0 rfl rfl) rfl rfl hl.1 rfl (lv_room (Nat.le_of_ble_eq_true rfl)) dX6_seek_47 ⟨Nat.le_of_ble_eq_true rfl, Nat.le_of_ble_eq_true rfl⟩) hP hS hA (fun r_13 H locs wr_13 hP hS => ?_)
              refine eWv (wr := [(a 47, .inl (cI, 72, .inl pc_))]) (va_runV (As := [.int (nI j2), .int (nI j1), .int r_13]) (rest := []) ⟨hx, hb, hml, hown, hts⟩ (c_X6_weigh l D cI cB cZ cJ tx a bc_j2 br_j2 bm_j2 ba_j2 bp_j2 (nI j2) (nI j1) r_13 H.size) (zV hts k_1185 v_X6_weigh ⟨Nat.le_of_ble_eq_true rfl, Nat.le_of_ble_eq_true rfl⟩) (pV (pxS hK hP hD [0] (by decide) rfl) hK hP 0 rfl rfl) rfl rfl hl.1 rfl (lv_room (Nat.le_of_ble_eq_true rfl)) dX6_seek_50 ⟨Nat.le_of_ble_eq_true rfl, Nat.le_of_ble_eq_true rfl⟩) hP hD hS hA [0] [1] rfl rfl (by decide) (by decide) (fun u_15 H locs wr_14 hP hD hS => ?_)
              obtain ⟨bc_15, br_15, bm_15, ba_15, bp_15⟩ := u_15
              have hP : va_P D vwCl [(a 47, .inl (cI, 72, .inl pc_)), (a 11, .inr (6, [.ref (a 47), .int bc_15, .int br_15, .int bm_15, .int ba_15, .int bp_15]))] H := hP
              have hD : va_D A [(a 47, .inl (cI, 72, .inl pc_)), (a 11, .inr (6, [.ref (a 47), .int bc_15, .int br_15, .int bm_15, .int ba_15, .int bp_15]))] := hD
              refine lv_iinc (v := nI (j2 + 1)) (lv' := [(4, .int (nI (j2 + 1))), (3, .int (nI j1)), (0, .ref (a 11)), (1, .int (nI w0)), (2, .int (nI h0))]) hx hb dX6_seek_53 hl (k := 0) rfl (nI_1 j2) (by decide) rfl (fun ls hl => ?_)
              refine lv_goto (tgt := 28) hx hb dX6_seek_56 (by decide) ?_
              exact ih28 (j2 + 1) bc_15 br_15 bm_15 ba_15 bp_15 H locs ls (by omega) (by omega)  (hP.sub [1, 0] rfl) (hD.sub [1, 0] (by decide) rfl) hS (lv_sub hl [0, 1, 2, 3, 4] rfl)
        exact lp28 ((13 - w0) + 1) 0 bc_j1 br_j1 bm_j1 ba_j1 bp_j1 H locs ls (by omega) (by omega)  (hP.sub [0, 1] rfl) (hD.sub [0, 1] (by decide) rfl) hS (lv_sub hl [0, 1, 2, 3, 4] rfl)
  exact lp17 ((7 - h0) + 1) 0 bc br (-1) 0 0 H locs ls (by omega) (by omega)  (hP.sub [0, 1] rfl) (hD.sub [0, 1] (by decide) rfl) hS (lv_sub hl [0, 1, 2, 3] rfl)

theorem lf_X7_tell_2 (a : Nat → Nat) (y0 : Nat → Int32) (y1 : Nat → Int32) (x1 : Nat) (x2 : Nat) (n3 : Int32) (hx1 : x1 ≤ 5) (hx2 : x2 ≤ 5) : vp_in (nI ((x1 * 6) + x2)) 36 := by
  first | exact vp_in_nI (by omega) (by decide) | (unfold vp_in; decide)
theorem lf_X7_tell_4 (a : Nat → Nat) (y0 : Nat → Int32) (y1 : Nat → Int32) (x1 : Nat) (x2 : Nat) (n3 : Int32) (hx1 : x1 ≤ 5) (hx2 : x2 ≤ 5) (f_1 : Nat → Int32) : vp_in (nI x1) 6 := by
  first | exact vp_in_nI (by omega) (by decide) | (unfold vp_in; decide)
set_option maxHeartbeats 4000000 in
set_option maxRecDepth 100000 in
theorem c_X7_tell (l : Launch) (D : va_G) (cI cB cZ cJ : ClassId) (tx : List (ClassId × FieldType)) (a : Nat → Nat) (y0 : Nat → Int32) (y1 : Nat → Int32) (x1 : Nat) (x2 : Nat) (n3 : Int32) (hx1 : x1 ≤ 5) (hx2 : x2 ≤ 5) : WrV l D cI cB cZ cJ tx yX7_tell cX7_tell 4 none 0 0 0 [.ref (a 12), .int (nI x1), .int (nI x2), .int n3] [(a 12, .inr (7, [.ref (a 48), .ref (a 49), .ref (a 50)])), (a 48, .inl (cI, 36, .inl y0)), (a 49, .inl (cZ, 6, .inl y1))] (fun (v : (Nat → Int32) × (Nat → Int32)) => True) (fun v => [(a 12, .inr (7, [.ref (a 48), .ref (a 49), .ref (a 50)])), (a 48, .inl (cI, 36, .inl v.1)), (a 49, .inl (cZ, 6, .inl v.2))]) := by
  refine wrv_of2 (by decide) (Nat.le_of_ble_eq_true rfl) ?_
  intro p e s m below meth c A ls H locs hC hK hP hD hA hS hl
  obtain ⟨hx, hb, hr, hml, hown, hts, hlocks, hin⟩ := hC
  have hown : s.vm.findClass RX7 = some m.cls := hown
  have hl : lv_has ls 4 [(0, .ref (a 12)), (1, .int (nI x1)), (2, .int (nI x2)), (3, .int n3)] := hl
  refine lv_aload_n hx hb dX7_tell_0 rfl (lv_at hl 0 rfl) ?_
  refine va_get (D := D) (ci := 7) (v := .ref (a 48)) (C := RX7) (T := TX7) (N := 3) hx hb hts inT_X7 hown hK.1 hP 0 rfl rfl 0 (by decide) (hts _ k_471) (fun _ h9 => h9) rfl dX7_tell_1 ?_
  refine lv_iload_n hx hb dX7_tell_4 rfl (lv_at hl 1 rfl) ?_
  refine lv_bipush (v := 6) hx hb dX7_tell_5 (by decide) ?_
  refine lv_imul hx hb dX7_tell_7 ?_
  refine lv_topv (y := nI (x1 * 6)) (pk_mul x1 6) ?_
  refine lv_iload_n hx hb dX7_tell_8 rfl (lv_at hl 2 rfl) ?_
  refine lv_iadd hx hb dX7_tell_9 ?_
  refine lv_topv (y := nI ((x1 * 6) + x2)) (nI_add (x1 * 6) x2) ?_
  refine lv_iload_n hx hb dX7_tell_10 rfl (lv_at hl 3 rfl) ?_
  refine st_i hx hb hK hP hD hS 1 rfl (lf_X7_tell_2 a y0 y1 x1 x2 n3 hx1 hx2) dX7_tell_11 (fun f_1 H locs hP hD hS => ?_)
  have hP : va_P D vwCl [(a 12, .inr (7, [.ref (a 48), .ref (a 49), .ref (a 50)])), (a 48, .inl (cI, 36, .inl f_1)), (a 49, .inl (cZ, 6, .inl y1))] H := hP
  have hD : va_D A [(a 12, .inr (7, [.ref (a 48), .ref (a 49), .ref (a 50)])), (a 48, .inl (cI, 36, .inl f_1)), (a 49, .inl (cZ, 6, .inl y1))] := hD
  refine lv_aload_n hx hb dX7_tell_12 rfl (lv_at hl 0 rfl) ?_
  refine va_get (D := D) (ci := 7) (v := .ref (a 49)) (C := RX7) (T := TX7) (N := 3) hx hb hts inT_X7 hown hK.1 hP 0 rfl rfl 1 (by decide) (hts _ k_472) (fun _ h9 => h9) rfl dX7_tell_13 ?_
  refine lv_iload_n hx hb dX7_tell_16 rfl (lv_at hl 1 rfl) ?_
  refine lv_iconst (v := 1) hx hb dX7_tell_17 (by decide) ?_
  refine st_z hx hb hK hP hD hS 2 rfl (lf_X7_tell_4 a y0 y1 x1 x2 n3 hx1 hx2 f_1) dX7_tell_18 (fun f_3 H locs hP hD hS => ?_)
  have hP : va_P D vwCl [(a 12, .inr (7, [.ref (a 48), .ref (a 49), .ref (a 50)])), (a 48, .inl (cI, 36, .inl f_1)), (a 49, .inl (cZ, 6, .inl f_3))] H := hP
  have hD : va_D A [(a 12, .inr (7, [.ref (a 48), .ref (a 49), .ref (a 50)])), (a 48, .inl (cI, 36, .inl f_1)), (a 49, .inl (cZ, 6, .inl f_3))] := hD
  exact W.vret hx hb hr (fun tt9 ht hW => ⟨⟨((f_1 : Nat → Int32), (f_3 : Nat → Int32)), rfl, trivial, ⟨by rw [ht]; exact hP, hD⟩⟩, hS.F ht⟩) hS.2.2 dX7_tell_19 hlocks

theorem lf_X7_told_3 (a : Nat → Nat) (y1 : Nat → Int32) (j1 : Nat) (w1 : Int32) (k4 : Nat) (hj4 : j1 ≤ 6) (hk4 : 6 < j1 + (k4 + 1)) (c_1 : 6 ≤ nI j1) : 6 ≤ j1 := by
  exact (nI_leI (a := 6) (b := j1) (by omega) (by omega)).mp c_1
theorem lf_X7_told_5 (a : Nat → Nat) (y1 : Nat → Int32) (j1 : Nat) (w1 : Int32) (k4 : Nat) (hj4 : j1 ≤ 6) (hk4 : 6 < j1 + (k4 + 1)) (c_1 : ¬ 6 ≤ nI j1) : j1 < 6 := by
  exact Nat.lt_of_not_le (fun q => c_1 ((nI_leI (a := 6) (b := j1) (by omega) (by omega)).mpr q))
theorem lf_X7_told_6 (a : Nat → Nat) (y1 : Nat → Int32) (j1 : Nat) (w1 : Int32) (k4 : Nat) (hj4 : j1 ≤ 6) (hk4 : 6 < j1 + (k4 + 1)) (c_1 : ¬ 6 ≤ nI j1) (n_4 : j1 < 6) : vp_in (nI j1) 6 := by
  first | exact vp_in_nI (by omega) (by decide) | (unfold vp_in; decide)
set_option maxHeartbeats 4000000 in
set_option maxRecDepth 100000 in
theorem c_X7_told (l : Launch) (D : va_G) (cI cB cZ cJ : ClassId) (tx : List (ClassId × FieldType)) (a : Nat → Nat) (y1 : Nat → Int32) : RdI l D cI cB cZ cJ tx yX7_told cX7_told 3 (some .int) 0 [.ref (a 12)] [(a 12, .inr (7, [.ref (a 48), .ref (a 49), .ref (a 50)])), (a 49, .inl (cZ, 6, .inl y1))] (fun r => True) := by
  refine rdi_of2 (by decide) (Nat.le_of_ble_eq_true rfl) ?_
  intro p e s m below meth c A ls H locs hC hK hP hD hA hS hl
  obtain ⟨hx, hb, hr, hml, hown, hts, hlocks, hin⟩ := hC
  have hown : s.vm.findClass RX7 = some m.cls := hown
  have hl : lv_has ls 3 [(0, .ref (a 12))] := hl
  refine lv_iconst (v := 0) hx hb dX7_told_0 (by decide) ?_
  refine lv_istore_n (lv' := [(1, .int 0), (0, .ref (a 12))]) hx hb dX7_told_1 rfl hl (by decide) rfl (fun ls hl => ?_)
  refine lv_iconst (v := 0) hx hb dX7_told_2 (by decide) ?_
  refine lv_istore_n (lv' := [(2, .int 0), (1, .int 0), (0, .ref (a 12))]) hx hb dX7_told_3 rfl hl (by decide) rfl (fun ls hl => ?_)
  have lp4 : ∀ (k4 : Nat) (j1 : Nat) (w1 : Int32) (H : Heap) (locs : List Loc) (ls : Array Slot), j1 ≤ 6 → 6 < j1 + k4 → va_P D vwCl [(a 12, .inr (7, [.ref (a 48), .ref (a 49), .ref (a 50)])), (a 49, .inl (cZ, 6, .inl y1))] H → va_S A s.heap H locs → lv_has ls 3 [(2, .int (nI j1)), (1, .int w1), (0, .ref (a 12))] → W p l e (rmX 0 0 0) s m ([.ref (a 12)] : List Value).toArray below meth c H locs 0 0 (MQ below (va_Qi (fun r (_ : Unit) => (fun r => True) r) (fun _ _ => True) A) ([.ref (a 12)] : List Value).toArray s 0 0 A) (F0 m 4 ls []) := by
    intro k4
    induction k4 with
    | zero =>
      intro j1 w1 H locs ls hj4 hk4  hP hS hl
      exact absurd hk4 (by omega)
    | succ k4 ih4 =>
      intro j1 w1 H locs ls hj4 hk4  hP hS hl
      refine lv_iload_n hx hb dX7_told_4 rfl (lv_at hl 0 rfl) ?_
      refine lv_bipush (v := 6) hx hb dX7_told_5 (by decide) ?_
      refine lv_icmp_ge (tgt := 33) hx hb dX7_told_7 (by decide) (fun c_1 => ?_) (fun c_1 => ?_)
      · have n_2 : 6 ≤ j1 := (lf_X7_told_3 a y1 j1 w1 k4 hj4 hk4 c_1)
        refine lv_iload_n hx hb dX7_told_33 rfl (lv_at hl 1 rfl) ?_
        exact W.iret (v := w1) hx hb hr (fun tt9 ht hW => ⟨⟨(w1 : Int32), (), rfl, trivial, trivial⟩, hS.F ht⟩) hS.2.2 dX7_told_34 hlocks
      · have n_4 : j1 < 6 := (lf_X7_told_5 a y1 j1 w1 k4 hj4 hk4 c_1)
        refine lv_iload_n hx hb dX7_told_10 rfl (lv_at hl 1 rfl) ?_
        refine lv_aload_n hx hb dX7_told_11 rfl (lv_at hl 2 rfl) ?_
        refine va_get (D := D) (ci := 7) (v := .ref (a 49)) (C := RX7) (T := TX7) (N := 3) hx hb hts inT_X7 hown hK.1 hP 0 rfl rfl 1 (by decide) (hts _ k_472) (fun _ h9 => h9) rfl dX7_told_12 ?_
        refine lv_iload_n hx hb dX7_told_15 rfl (lv_at hl 0 rfl) ?_
        refine ld_z hx hb hK hP 1 rfl (lf_X7_told_6 a y1 j1 w1 k4 hj4 hk4 c_1 n_4) dX7_told_16 (fun x_7 => ?_)
        refine lv_if_eq (tgt := 24) hx hb dX7_told_17 (by decide) (fun c_8 => ?_) (fun c_8 => ?_)
        · refine lv_iconst (v := 0) hx hb dX7_told_24 (by decide) ?_
          refine lv_iadd hx hb dX7_told_25 ?_
          refine lv_topi (fun x_9 ex_9 => ?_)
          refine lv_istore_n (lv' := [(1, .int x_9), (2, .int (nI j1)), (0, .ref (a 12))]) hx hb dX7_told_26 rfl hl (by decide) rfl (fun ls hl => ?_)
          refine lv_iinc (v := nI (j1 + 1)) (lv' := [(2, .int (nI (j1 + 1))), (1, .int x_9), (0, .ref (a 12))]) hx hb dX7_told_27 hl (k := 1) rfl (nI_1 j1) (by decide) rfl (fun ls hl => ?_)
          refine lv_goto (tgt := 4) hx hb dX7_told_30 (by decide) ?_
          exact ih4 (j1 + 1) x_9 H locs ls (by omega) (by omega)  (hP.sub [0, 1] rfl)  hS (lv_sub hl [0, 1, 2] rfl)
        · refine lv_iconst (v := 1) hx hb dX7_told_20 (by decide) ?_
          refine lv_goto (tgt := 25) hx hb dX7_told_21 (by decide) ?_
          refine lv_iadd hx hb dX7_told_25 ?_
          refine lv_topi (fun x_10 ex_10 => ?_)
          refine lv_istore_n (lv' := [(1, .int x_10), (2, .int (nI j1)), (0, .ref (a 12))]) hx hb dX7_told_26 rfl hl (by decide) rfl (fun ls hl => ?_)
          refine lv_iinc (v := nI (j1 + 1)) (lv' := [(2, .int (nI (j1 + 1))), (1, .int x_10), (0, .ref (a 12))]) hx hb dX7_told_27 hl (k := 1) rfl (nI_1 j1) (by decide) rfl (fun ls hl => ?_)
          refine lv_goto (tgt := 4) hx hb dX7_told_30 (by decide) ?_
          exact ih4 (j1 + 1) x_10 H locs ls (by omega) (by omega)  (hP.sub [0, 1] rfl)  hS (lv_sub hl [0, 1, 2] rfl)
  exact lp4 (6 + 1) 0 0 H locs ls (by omega) (by omega)  (hP.sub [0, 1] rfl)  hS (lv_sub hl [0, 1, 2] rfl)

theorem lf_X7_product_3 (a : Nat → Nat) (y0 : Nat → Int32) (y2 : Nat → Int32) (x1 : Nat) (hx1 : x1 < 6) (j1 : Nat) (w1 : Int64) (k5 : Nat) (hj5 : j1 ≤ 6) (hk5 : 6 < j1 + (k5 + 1)) (c_1 : 6 ≤ nI j1) : 6 ≤ j1 := by
  exact (nI_leI (a := 6) (b := j1) (by omega) (by omega)).mp c_1
theorem lf_X7_product_5 (a : Nat → Nat) (y0 : Nat → Int32) (y2 : Nat → Int32) (x1 : Nat) (hx1 : x1 < 6) (j1 : Nat) (w1 : Int64) (k5 : Nat) (hj5 : j1 ≤ 6) (hk5 : 6 < j1 + (k5 + 1)) (c_1 : ¬ 6 ≤ nI j1) : j1 < 6 := by
  exact Nat.lt_of_not_le (fun q => c_1 ((nI_leI (a := 6) (b := j1) (by omega) (by omega)).mpr q))
theorem lf_X7_product_6 (a : Nat → Nat) (y0 : Nat → Int32) (y2 : Nat → Int32) (x1 : Nat) (hx1 : x1 < 6) (j1 : Nat) (w1 : Int64) (k5 : Nat) (hj5 : j1 ≤ 6) (hk5 : 6 < j1 + (k5 + 1)) (c_1 : ¬ 6 ≤ nI j1) (n_4 : j1 < 6) : vp_in (nI ((x1 * 6) + j1)) 36 := by
  first | exact vp_in_nI (by omega) (by decide) | (unfold vp_in; decide)
theorem lf_X7_product_8 (a : Nat → Nat) (y0 : Nat → Int32) (y2 : Nat → Int32) (x1 : Nat) (hx1 : x1 < 6) (j1 : Nat) (w1 : Int64) (k5 : Nat) (hj5 : j1 ≤ 6) (hk5 : 6 < j1 + (k5 + 1)) (c_1 : ¬ 6 ≤ nI j1) (n_4 : j1 < 6) (x_7 : Int32) : vp_in (nI j1) 6 := by
  first | exact vp_in_nI (by omega) (by decide) | (unfold vp_in; decide)
theorem lf_X7_product_11 (a : Nat → Nat) (y0 : Nat → Int32) (y2 : Nat → Int32) (x1 : Nat) (hx1 : x1 < 6) (j1 : Nat) (w1 : Int64) (k5 : Nat) (hj5 : j1 ≤ 6) (hk5 : 6 < j1 + (k5 + 1)) (c_1 : ¬ 6 ≤ nI j1) (n_4 : j1 < 6) (x_7 : Int32) (x_9 : Int32) (c_10 : ¬ x_9 < 0) : vp_in (nI j1) 6 := by
  first | exact vp_in_nI (by omega) (by decide) | (unfold vp_in; decide)
set_option maxHeartbeats 4000000 in
set_option maxRecDepth 100000 in
theorem c_X7_product (l : Launch) (D : va_G) (cI cB cZ cJ : ClassId) (tx : List (ClassId × FieldType)) (a : Nat → Nat) (y0 : Nat → Int32) (y2 : Nat → Int32) (x1 : Nat) (hx1 : x1 < 6) : RdL l D cI cB cZ cJ tx yX7_product cX7_product 6 (some .long) 0 [.ref (a 12), .int (nI x1)] [(a 12, .inr (7, [.ref (a 48), .ref (a 49), .ref (a 50)])), (a 48, .inl (cI, 36, .inl y0)), (a 50, .inl (cI, 6, .inl y2))] (fun r => True) := by
  refine rdl_of2 (by decide) (Nat.le_of_ble_eq_true rfl) ?_
  intro p e s m below meth c A ls H locs hC hK hP hD hA hS hl
  obtain ⟨hx, hb, hr, hml, hown, hts, hlocks, hin⟩ := hC
  have hown : s.vm.findClass RX7 = some m.cls := hown
  have hl : lv_has ls 6 [(0, .ref (a 12)), (1, .int (nI x1))] := hl
  refine lv_lconst (v := 1) hx hb dX7_product_0 (by decide) ?_
  refine lv_lstore_n (lv' := [(2, .long 1), (0, .ref (a 12)), (1, .int (nI x1))]) hx hb dX7_product_1 rfl hl (by decide) rfl (fun ls hl => ?_)
  refine lv_iconst (v := 0) hx hb dX7_product_2 (by decide) ?_
  refine lv_istore (lv' := [(4, .int 0), (2, .long 1), (0, .ref (a 12)), (1, .int (nI x1))]) hx hb dX7_product_3 hl (by decide) rfl (fun ls hl => ?_)
  have lp5 : ∀ (k5 : Nat) (j1 : Nat) (w1 : Int64) (H : Heap) (locs : List Loc) (ls : Array Slot), j1 ≤ 6 → 6 < j1 + k5 → va_P D vwCl [(a 12, .inr (7, [.ref (a 48), .ref (a 49), .ref (a 50)])), (a 48, .inl (cI, 36, .inl y0)), (a 50, .inl (cI, 6, .inl y2))] H → va_S A s.heap H locs → lv_has ls 6 [(4, .int (nI j1)), (2, .long w1), (0, .ref (a 12)), (1, .int (nI x1))] → W p l e (rmX 0 0 0) s m ([.ref (a 12), .int (nI x1)] : List Value).toArray below meth c H locs 0 0 (MQ below (va_Ql (fun r (_ : Unit) => (fun r => True) r) (fun _ _ => True) A) ([.ref (a 12), .int (nI x1)] : List Value).toArray s 0 0 A) (F0 m 5 ls []) := by
    intro k5
    induction k5 with
    | zero =>
      intro j1 w1 H locs ls hj5 hk5  hP hS hl
      exact absurd hk5 (by omega)
    | succ k5 ih5 =>
      intro j1 w1 H locs ls hj5 hk5  hP hS hl
      refine lv_iload hx hb dX7_product_5 (lv_at hl 0 rfl) ?_
      refine lv_bipush (v := 6) hx hb dX7_product_7 (by decide) ?_
      refine lv_icmp_ge (tgt := 69) hx hb dX7_product_9 (by decide) (fun c_1 => ?_) (fun c_1 => ?_)
      · have n_2 : 6 ≤ j1 := (lf_X7_product_3 a y0 y2 x1 hx1 j1 w1 k5 hj5 hk5 c_1)
        refine lv_lload_n hx hb dX7_product_69 rfl (lv_at hl 1 rfl) ?_
        exact W.lret (v := w1) hx hb hr (fun tt9 ht hW => ⟨⟨(w1 : Int64), (), rfl, trivial, trivial⟩, hS.F ht⟩) hS.2.2 dX7_product_70 hlocks
      · have n_4 : j1 < 6 := (lf_X7_product_5 a y0 y2 x1 hx1 j1 w1 k5 hj5 hk5 c_1)
        refine lv_aload_n hx hb dX7_product_12 rfl (lv_at hl 2 rfl) ?_
        refine va_get (D := D) (ci := 7) (v := .ref (a 48)) (C := RX7) (T := TX7) (N := 3) hx hb hts inT_X7 hown hK.1 hP 0 rfl rfl 0 (by decide) (hts _ k_471) (fun _ h9 => h9) rfl dX7_product_13 ?_
        refine lv_iload_n hx hb dX7_product_16 rfl (lv_at hl 3 rfl) ?_
        refine lv_bipush (v := 6) hx hb dX7_product_17 (by decide) ?_
        refine lv_imul hx hb dX7_product_19 ?_
        refine lv_topv (y := nI (x1 * 6)) (pk_mul x1 6) ?_
        refine lv_iload hx hb dX7_product_20 (lv_at hl 0 rfl) ?_
        refine lv_iadd hx hb dX7_product_22 ?_
        refine lv_topv (y := nI ((x1 * 6) + j1)) (nI_add (x1 * 6) j1) ?_
        refine ld_i hx hb hK hP 1 rfl (lf_X7_product_6 a y0 y2 x1 hx1 j1 w1 k5 hj5 hk5 c_1 n_4) dX7_product_23 (fun x_7 => ?_)
        refine lv_istore (lv' := [(5, .int x_7), (4, .int (nI j1)), (2, .long w1), (0, .ref (a 12)), (1, .int (nI x1))]) hx hb dX7_product_24 hl (by decide) rfl (fun ls hl => ?_)
        refine lv_aload_n hx hb dX7_product_26 rfl (lv_at hl 3 rfl) ?_
        refine va_get (D := D) (ci := 7) (v := .ref (a 50)) (C := RX7) (T := TX7) (N := 3) hx hb hts inT_X7 hown hK.1 hP 0 rfl rfl 2 (by decide) (hts _ k_474) (fun _ h9 => h9) rfl dX7_product_27 ?_
        refine lv_iload hx hb dX7_product_30 (lv_at hl 1 rfl) ?_
        refine ld_i hx hb hK hP 2 rfl (lf_X7_product_8 a y0 y2 x1 hx1 j1 w1 k5 hj5 hk5 c_1 n_4 x_7) dX7_product_32 (fun x_9 => ?_)
        refine lv_if_lt (tgt := 63) hx hb dX7_product_33 (by decide) (fun c_10 => ?_) (fun c_10 => ?_)
        · refine lv_iinc (v := nI (j1 + 1)) (lv' := [(4, .int (nI (j1 + 1))), (5, .int x_7), (2, .long w1), (0, .ref (a 12)), (1, .int (nI x1))]) hx hb dX7_product_63 hl (k := 1) rfl (nI_1 j1) (by decide) rfl (fun ls hl => ?_)
          refine lv_goto (tgt := 5) hx hb dX7_product_66 (by decide) ?_
          exact ih5 (j1 + 1) w1 H locs ls (by omega) (by omega)  (hP.sub [0, 1, 2] rfl)  hS (lv_sub hl [0, 2, 3, 4] rfl)
        · refine lv_lload_n hx hb dX7_product_36 rfl (lv_at hl 2 rfl) ?_
          refine lv_aload_n hx hb dX7_product_37 rfl (lv_at hl 3 rfl) ?_
          refine va_get (D := D) (ci := 7) (v := .ref (a 50)) (C := RX7) (T := TX7) (N := 3) hx hb hts inT_X7 hown hK.1 hP 0 rfl rfl 2 (by decide) (hts _ k_474) (fun _ h9 => h9) rfl dX7_product_38 ?_
          refine lv_iload hx hb dX7_product_41 (lv_at hl 1 rfl) ?_
          refine ld_i hx hb hK hP 2 rfl (lf_X7_product_11 a y0 y2 x1 hx1 j1 w1 k5 hj5 hk5 c_1 n_4 x_7 x_9 c_10) dX7_product_43 (fun x_12 => ?_)
          refine lv_iconst (v := 1) hx hb dX7_product_44 (by decide) ?_
          refine lv_icmp_ne (tgt := 54) hx hb dX7_product_45 (by decide) (fun c_13 => ?_) (fun c_13 => ?_)
          · refine lv_sipush (v := 1000) hx hb dX7_product_54 (by decide) ?_
            refine lv_iload hx hb dX7_product_57 (lv_at hl 0 rfl) ?_
            refine lv_isub hx hb dX7_product_59 ?_
            refine lv_topi (fun x_14 ex_14 => ?_)
            refine lv_i2l (v := x_14.toInt64) hx hb dX7_product_60 rfl ?_
            refine lv_lmul hx hb dX7_product_61 ?_
            refine lv_topl (fun x_15 ex_15 => ?_)
            refine lv_lstore_n (lv' := [(2, .long x_15), (5, .int x_7), (4, .int (nI j1)), (0, .ref (a 12)), (1, .int (nI x1))]) hx hb dX7_product_62 rfl hl (by decide) rfl (fun ls hl => ?_)
            refine lv_iinc (v := nI (j1 + 1)) (lv' := [(4, .int (nI (j1 + 1))), (2, .long x_15), (5, .int x_7), (0, .ref (a 12)), (1, .int (nI x1))]) hx hb dX7_product_63 hl (k := 2) rfl (nI_1 j1) (by decide) rfl (fun ls hl => ?_)
            refine lv_goto (tgt := 5) hx hb dX7_product_66 (by decide) ?_
            exact ih5 (j1 + 1) x_15 H locs ls (by omega) (by omega)  (hP.sub [0, 1, 2] rfl)  hS (lv_sub hl [0, 1, 3, 4] rfl)
          · refine lv_iload hx hb dX7_product_48 (lv_at hl 0 rfl) ?_
            refine lv_i2l (v := x_7.toInt64) hx hb dX7_product_50 rfl ?_
            refine lv_goto (tgt := 61) hx hb dX7_product_51 (by decide) ?_
            refine lv_lmul hx hb dX7_product_61 ?_
            refine lv_topl (fun x_16 ex_16 => ?_)
            refine lv_lstore_n (lv' := [(2, .long x_16), (5, .int x_7), (4, .int (nI j1)), (0, .ref (a 12)), (1, .int (nI x1))]) hx hb dX7_product_62 rfl hl (by decide) rfl (fun ls hl => ?_)
            refine lv_iinc (v := nI (j1 + 1)) (lv' := [(4, .int (nI (j1 + 1))), (2, .long x_16), (5, .int x_7), (0, .ref (a 12)), (1, .int (nI x1))]) hx hb dX7_product_63 hl (k := 2) rfl (nI_1 j1) (by decide) rfl (fun ls hl => ?_)
            refine lv_goto (tgt := 5) hx hb dX7_product_66 (by decide) ?_
            exact ih5 (j1 + 1) x_16 H locs ls (by omega) (by omega)  (hP.sub [0, 1, 2] rfl)  hS (lv_sub hl [0, 1, 3, 4] rfl)
  exact lp5 (6 + 1) 0 1 H locs ls (by omega) (by omega)  (hP.sub [0, 1, 2] rfl)  hS (lv_sub hl [0, 1, 2, 3] rfl)

theorem lf_X7_together_3 (a : Nat → Nat) (y0 : Nat → Int32) (y1 : Nat → Int32) (y2 : Nat → Int32) (j1 : Nat) (w1 : Int64) (k4 : Nat) (hj4 : j1 ≤ 6) (hk4 : 6 < j1 + (k4 + 1)) (c_1 : 6 ≤ nI j1) : 6 ≤ j1 := by
  exact (nI_leI (a := 6) (b := j1) (by omega) (by omega)).mp c_1
theorem lf_X7_together_5 (a : Nat → Nat) (y0 : Nat → Int32) (y1 : Nat → Int32) (y2 : Nat → Int32) (j1 : Nat) (w1 : Int64) (k4 : Nat) (hj4 : j1 ≤ 6) (hk4 : 6 < j1 + (k4 + 1)) (c_1 : ¬ 6 ≤ nI j1) : j1 < 6 := by
  exact Nat.lt_of_not_le (fun q => c_1 ((nI_leI (a := 6) (b := j1) (by omega) (by omega)).mpr q))
theorem lf_X7_together_6 (a : Nat → Nat) (y0 : Nat → Int32) (y1 : Nat → Int32) (y2 : Nat → Int32) (j1 : Nat) (w1 : Int64) (k4 : Nat) (hj4 : j1 ≤ 6) (hk4 : 6 < j1 + (k4 + 1)) (c_1 : ¬ 6 ≤ nI j1) (n_4 : j1 < 6) : vp_in (nI j1) 6 := by
  first | exact vp_in_nI (by omega) (by decide) | (unfold vp_in; decide)
theorem lf_X7_together_10 (a : Nat → Nat) (y0 : Nat → Int32) (y1 : Nat → Int32) (y2 : Nat → Int32) (j1 : Nat) (w1 : Int64) (k4 : Nat) (hj4 : j1 ≤ 6) (hk4 : 6 < j1 + (k4 + 1)) (c_1 : ¬ 6 ≤ nI j1) (n_4 : j1 < 6) (x_7 : Int32) (c_8 : ¬ x_7 = 0) : j1 < 6 := by
  first | assumption | omega | decide
set_option maxHeartbeats 4000000 in
set_option maxRecDepth 100000 in
theorem c_X7_together (l : Launch) (D : va_G) (cI cB cZ cJ : ClassId) (tx : List (ClassId × FieldType)) (a : Nat → Nat) (y0 : Nat → Int32) (y1 : Nat → Int32) (y2 : Nat → Int32) : RdL l D cI cB cZ cJ tx yX7_together cX7_together 4 (some .long) 1 [.ref (a 12)] [(a 12, .inr (7, [.ref (a 48), .ref (a 49), .ref (a 50)])), (a 48, .inl (cI, 36, .inl y0)), (a 49, .inl (cZ, 6, .inl y1)), (a 50, .inl (cI, 6, .inl y2))] (fun r => True) := by
  refine rdl_of2 (by decide) (Nat.le_of_ble_eq_true rfl) ?_
  intro p e s m below meth c A ls H locs hC hK hP hD hA hS hl
  obtain ⟨hx, hb, hr, hml, hown, hts, hlocks, hin⟩ := hC
  have hown : s.vm.findClass RX7 = some m.cls := hown
  have hl : lv_has ls 4 [(0, .ref (a 12))] := hl
  refine lv_lconst (v := 0) hx hb dX7_together_0 (by decide) ?_
  refine lv_lstore_n (lv' := [(1, .long 0), (0, .ref (a 12))]) hx hb dX7_together_1 rfl hl (by decide) rfl (fun ls hl => ?_)
  refine lv_iconst (v := 0) hx hb dX7_together_2 (by decide) ?_
  refine lv_istore_n (lv' := [(3, .int 0), (1, .long 0), (0, .ref (a 12))]) hx hb dX7_together_3 rfl hl (by decide) rfl (fun ls hl => ?_)
  have lp4 : ∀ (k4 : Nat) (j1 : Nat) (w1 : Int64) (H : Heap) (locs : List Loc) (ls : Array Slot), j1 ≤ 6 → 6 < j1 + k4 → va_P D vwCl [(a 12, .inr (7, [.ref (a 48), .ref (a 49), .ref (a 50)])), (a 48, .inl (cI, 36, .inl y0)), (a 49, .inl (cZ, 6, .inl y1)), (a 50, .inl (cI, 6, .inl y2))] H → va_S A s.heap H locs → lv_has ls 4 [(3, .int (nI j1)), (1, .long w1), (0, .ref (a 12))] → W p l e (rmX 1 0 0) s m ([.ref (a 12)] : List Value).toArray below meth c H locs 0 0 (MQ below (va_Ql (fun r (_ : Unit) => (fun r => True) r) (fun _ _ => True) A) ([.ref (a 12)] : List Value).toArray s 0 0 A) (F0 m 4 ls []) := by
    intro k4
    induction k4 with
    | zero =>
      intro j1 w1 H locs ls hj4 hk4  hP hS hl
      exact absurd hk4 (by omega)
    | succ k4 ih4 =>
      intro j1 w1 H locs ls hj4 hk4  hP hS hl
      refine lv_iload_n hx hb dX7_together_4 rfl (lv_at hl 0 rfl) ?_
      refine lv_bipush (v := 6) hx hb dX7_together_5 (by decide) ?_
      refine lv_icmp_ge (tgt := 37) hx hb dX7_together_7 (by decide) (fun c_1 => ?_) (fun c_1 => ?_)
      · have n_2 : 6 ≤ j1 := (lf_X7_together_3 a y0 y1 y2 j1 w1 k4 hj4 hk4 c_1)
        refine lv_lload_n hx hb dX7_together_37 rfl (lv_at hl 1 rfl) ?_
        exact W.lret (v := w1) hx hb hr (fun tt9 ht hW => ⟨⟨(w1 : Int64), (), rfl, trivial, trivial⟩, hS.F ht⟩) hS.2.2 dX7_together_38 hlocks
      · have n_4 : j1 < 6 := (lf_X7_together_5 a y0 y1 y2 j1 w1 k4 hj4 hk4 c_1)
        refine lv_lload_n hx hb dX7_together_10 rfl (lv_at hl 1 rfl) ?_
        refine lv_aload_n hx hb dX7_together_11 rfl (lv_at hl 2 rfl) ?_
        refine va_get (D := D) (ci := 7) (v := .ref (a 49)) (C := RX7) (T := TX7) (N := 3) hx hb hts inT_X7 hown hK.1 hP 0 rfl rfl 1 (by decide) (hts _ k_472) (fun _ h9 => h9) rfl dX7_together_12 ?_
        refine lv_iload_n hx hb dX7_together_15 rfl (lv_at hl 0 rfl) ?_
        refine ld_z hx hb hK hP 2 rfl (lf_X7_together_6 a y0 y1 y2 j1 w1 k4 hj4 hk4 c_1 n_4) dX7_together_16 (fun x_7 => ?_)
        refine lv_if_eq (tgt := 28) hx hb dX7_together_17 (by decide) (fun c_8 => ?_) (fun c_8 => ?_)
        · refine lv_lconst (v := 0) hx hb dX7_together_28 (by decide) ?_
          refine lv_ladd hx hb dX7_together_29 ?_
          refine lv_topl (fun x_9 ex_9 => ?_)
          refine lv_lstore_n (lv' := [(1, .long x_9), (3, .int (nI j1)), (0, .ref (a 12))]) hx hb dX7_together_30 rfl hl (by decide) rfl (fun ls hl => ?_)
          refine lv_iinc (v := nI (j1 + 1)) (lv' := [(3, .int (nI (j1 + 1))), (1, .long x_9), (0, .ref (a 12))]) hx hb dX7_together_31 hl (k := 1) rfl (nI_1 j1) (by decide) rfl (fun ls hl => ?_)
          refine lv_goto (tgt := 4) hx hb dX7_together_34 (by decide) ?_
          exact ih4 (j1 + 1) x_9 H locs ls (by omega) (by omega)  (hP.sub [0, 1, 2, 3] rfl)  hS (lv_sub hl [0, 1, 2] rfl)
        · refine lv_aload_n hx hb dX7_together_20 rfl (lv_at hl 2 rfl) ?_
          refine lv_iload_n hx hb dX7_together_21 rfl (lv_at hl 0 rfl) ?_
          refine eRl (va_runV (As := [.int (nI j1)]) (rest := [.long w1]) ⟨hx, hb, hml, hown, hts⟩ (c_X7_product l D cI cB cZ cJ tx a y0 y2 j1 (lf_X7_together_10 a y0 y1 y2 j1 w1 k4 hj4 hk4 c_1 n_4 x_7 c_8) H.size) (zV hts k_1209 v_X7_product ⟨Nat.le_of_ble_eq_true rfl, Nat.le_of_ble_eq_true rfl⟩) (pV (pxS hK hP hD [0, 1, 3] (by decide) rfl) hK hP 0 rfl rfl) rfl rfl hl.1 rfl (lv_room (Nat.le_of_ble_eq_true rfl)) dX7_together_22 ⟨Nat.le_of_ble_eq_true rfl, Nat.le_of_ble_eq_true rfl⟩) hP hS hA (fun r_11 H locs wr_11 hP hS => ?_)
          refine lv_goto (tgt := 29) hx hb dX7_together_25 (by decide) ?_
          refine lv_ladd hx hb dX7_together_29 ?_
          refine lv_topl (fun x_12 ex_12 => ?_)
          refine lv_lstore_n (lv' := [(1, .long x_12), (3, .int (nI j1)), (0, .ref (a 12))]) hx hb dX7_together_30 rfl hl (by decide) rfl (fun ls hl => ?_)
          refine lv_iinc (v := nI (j1 + 1)) (lv' := [(3, .int (nI (j1 + 1))), (1, .long x_12), (0, .ref (a 12))]) hx hb dX7_together_31 hl (k := 1) rfl (nI_1 j1) (by decide) rfl (fun ls hl => ?_)
          refine lv_goto (tgt := 4) hx hb dX7_together_34 (by decide) ?_
          exact ih4 (j1 + 1) x_12 H locs ls (by omega) (by omega)  (hP.sub [0, 1, 2, 3] rfl)  hS (lv_sub hl [0, 1, 2] rfl)
  exact lp4 (6 + 1) 0 0 H locs ls (by omega) (by omega)  (hP.sub [0, 1, 2, 3] rfl)  hS (lv_sub hl [0, 1, 2] rfl)

theorem lf_X7_counts_1 (a : Nat → Nat) (y0 : Nat → Int32) (y1 : Nat → Int32) (y2 : Nat → Int32) (x1 : Nat) (hx1 : x1 < 6) : vp_in (nI x1) 6 := by
  first | exact vp_in_nI (by omega) (by decide) | (unfold vp_in; decide)
theorem lf_X7_counts_4 (a : Nat → Nat) (y0 : Nat → Int32) (y1 : Nat → Int32) (y2 : Nat → Int32) (x1 : Nat) (hx1 : x1 < 6) (x_2 : Int32) (c_3 : ¬ x_2 = 0) : x1 < 6 := by
  first | assumption | omega | decide
set_option maxHeartbeats 4000000 in
set_option maxRecDepth 100000 in
theorem c_X7_counts (l : Launch) (D : va_G) (cI cB cZ cJ : ClassId) (tx : List (ClassId × FieldType)) (a : Nat → Nat) (y0 : Nat → Int32) (y1 : Nat → Int32) (y2 : Nat → Int32) (x1 : Nat) (hx1 : x1 < 6) : RdI l D cI cB cZ cJ tx yX7_counts cX7_counts 2 (some .boolean) 1 [.ref (a 12), .int (nI x1)] [(a 12, .inr (7, [.ref (a 48), .ref (a 49), .ref (a 50)])), (a 48, .inl (cI, 36, .inl y0)), (a 49, .inl (cZ, 6, .inl y1)), (a 50, .inl (cI, 6, .inl y2))] (fun r => True) := by
  refine rdi_of2 (by decide) (Nat.le_of_ble_eq_true rfl) ?_
  intro p e s m below meth c A ls H locs hC hK hP hD hA hS hl
  obtain ⟨hx, hb, hr, hml, hown, hts, hlocks, hin⟩ := hC
  have hown : s.vm.findClass RX7 = some m.cls := hown
  have hl : lv_has ls 2 [(0, .ref (a 12)), (1, .int (nI x1))] := hl
  refine lv_aload_n hx hb dX7_counts_0 rfl (lv_at hl 0 rfl) ?_
  refine va_get (D := D) (ci := 7) (v := .ref (a 49)) (C := RX7) (T := TX7) (N := 3) hx hb hts inT_X7 hown hK.1 hP 0 rfl rfl 1 (by decide) (hts _ k_472) (fun _ h9 => h9) rfl dX7_counts_1 ?_
  refine lv_iload_n hx hb dX7_counts_4 rfl (lv_at hl 1 rfl) ?_
  refine ld_z hx hb hK hP 2 rfl (lf_X7_counts_1 a y0 y1 y2 x1 hx1) dX7_counts_5 (fun x_2 => ?_)
  refine lv_if_eq (tgt := 23) hx hb dX7_counts_6 (by decide) (fun c_3 => ?_) (fun c_3 => ?_)
  · refine lv_iconst (v := 0) hx hb dX7_counts_23 (by decide) ?_
    exact W.zret (v := 0) hx hb hr (by decide) (fun tt9 ht hW => ⟨⟨(0 : Int32), (), rfl, trivial, trivial⟩, hS.F ht⟩) hS.2.2 dX7_counts_24 hlocks
  · refine lv_aload_n hx hb dX7_counts_9 rfl (lv_at hl 0 rfl) ?_
    refine lv_iload_n hx hb dX7_counts_10 rfl (lv_at hl 1 rfl) ?_
    refine eRl (va_runV (As := [.int (nI x1)]) (rest := []) ⟨hx, hb, hml, hown, hts⟩ (c_X7_product l D cI cB cZ cJ tx a y0 y2 x1 (lf_X7_counts_4 a y0 y1 y2 x1 hx1 x_2 c_3) H.size) (zV hts k_1209 v_X7_product ⟨Nat.le_of_ble_eq_true rfl, Nat.le_of_ble_eq_true rfl⟩) (pV (pxS hK hP hD [0, 1, 3] (by decide) rfl) hK hP 0 rfl rfl) rfl rfl hl.1 rfl (lv_room (Nat.le_of_ble_eq_true rfl)) dX7_counts_11 ⟨Nat.le_of_ble_eq_true rfl, Nat.le_of_ble_eq_true rfl⟩) hP hS hA (fun r_5 H locs wr_5 hP hS => ?_)
    refine lv_lconst (v := 0) hx hb dX7_counts_14 (by decide) ?_
    refine W.lcmp hx hb dX7_counts_15 ?_
    refine lv_if_eq (tgt := 23) hx hb dX7_counts_16 (by decide) (fun c_6 => ?_) (fun c_6 => ?_)
    · refine lv_iconst (v := 0) hx hb dX7_counts_23 (by decide) ?_
      exact W.zret (v := 0) hx hb hr (by decide) (fun tt9 ht hW => ⟨⟨(0 : Int32), (), rfl, trivial, trivial⟩, hS.F ht⟩) hS.2.2 dX7_counts_24 hlocks
    · refine lv_iconst (v := 1) hx hb dX7_counts_19 (by decide) ?_
      refine lv_goto (tgt := 24) hx hb dX7_counts_20 (by decide) ?_
      exact W.zret (v := 1) hx hb hr (by decide) (fun tt9 ht hW => ⟨⟨(1 : Int32), (), rfl, trivial, trivial⟩, hS.F ht⟩) hS.2.2 dX7_counts_24 hlocks

theorem lf_X7_parted_3 (a : Nat → Nat) (y0 : Nat → Int32) (y1 : Nat → Int32) (y2 : Nat → Int32) (x1 : Nat) (hx1 : x1 < 6) (j1 : Nat) (w1 : Int32) (k4 : Nat) (hj4 : j1 ≤ 6) (hk4 : 6 < j1 + (k4 + 1)) (c_1 : 6 ≤ nI j1) : 6 ≤ j1 := by
  exact (nI_leI (a := 6) (b := j1) (by omega) (by omega)).mp c_1
theorem lf_X7_parted_5 (a : Nat → Nat) (y0 : Nat → Int32) (y1 : Nat → Int32) (y2 : Nat → Int32) (x1 : Nat) (hx1 : x1 < 6) (j1 : Nat) (w1 : Int32) (k4 : Nat) (hj4 : j1 ≤ 6) (hk4 : 6 < j1 + (k4 + 1)) (c_1 : ¬ 6 ≤ nI j1) : j1 < 6 := by
  exact Nat.lt_of_not_le (fun q => c_1 ((nI_leI (a := 6) (b := j1) (by omega) (by omega)).mpr q))
theorem lf_X7_parted_8 (a : Nat → Nat) (y0 : Nat → Int32) (y1 : Nat → Int32) (y2 : Nat → Int32) (x1 : Nat) (hx1 : x1 < 6) (j1 : Nat) (w1 : Int32) (k4 : Nat) (hj4 : j1 ≤ 6) (hk4 : 6 < j1 + (k4 + 1)) (c_1 : ¬ 6 ≤ nI j1) (n_4 : j1 < 6) (j2 : Nat) (w2 : Int32) (k13 : Nat) (hj13 : j2 ≤ j1) (hk13 : j1 < j2 + (k13 + 1)) (c_6 : nI j1 ≤ nI j2) : j1 ≤ j2 := by
  exact (nI_leI (a := j1) (b := j2) (by omega) (by omega)).mp c_6
theorem lf_X7_parted_10 (a : Nat → Nat) (y0 : Nat → Int32) (y1 : Nat → Int32) (y2 : Nat → Int32) (x1 : Nat) (hx1 : x1 < 6) (j1 : Nat) (w1 : Int32) (k4 : Nat) (hj4 : j1 ≤ 6) (hk4 : 6 < j1 + (k4 + 1)) (c_1 : ¬ 6 ≤ nI j1) (n_4 : j1 < 6) (j2 : Nat) (w2 : Int32) (k13 : Nat) (hj13 : j2 ≤ j1) (hk13 : j1 < j2 + (k13 + 1)) (c_6 : ¬ nI j1 ≤ nI j2) : j2 < j1 := by
  exact Nat.lt_of_not_le (fun q => c_6 ((nI_leI (a := j1) (b := j2) (by omega) (by omega)).mpr q))
theorem lf_X7_parted_11 (a : Nat → Nat) (y0 : Nat → Int32) (y1 : Nat → Int32) (y2 : Nat → Int32) (x1 : Nat) (hx1 : x1 < 6) (j1 : Nat) (w1 : Int32) (k4 : Nat) (hj4 : j1 ≤ 6) (hk4 : 6 < j1 + (k4 + 1)) (c_1 : ¬ 6 ≤ nI j1) (n_4 : j1 < 6) (j2 : Nat) (w2 : Int32) (k13 : Nat) (hj13 : j2 ≤ j1) (hk13 : j1 < j2 + (k13 + 1)) (c_6 : ¬ nI j1 ≤ nI j2) (n_9 : j2 < j1) : j1 < 6 := by
  first | assumption | omega | decide
theorem lf_X7_parted_14 (a : Nat → Nat) (y0 : Nat → Int32) (y1 : Nat → Int32) (y2 : Nat → Int32) (x1 : Nat) (hx1 : x1 < 6) (j1 : Nat) (w1 : Int32) (k4 : Nat) (hj4 : j1 ≤ 6) (hk4 : 6 < j1 + (k4 + 1)) (c_1 : ¬ 6 ≤ nI j1) (n_4 : j1 < 6) (j2 : Nat) (w2 : Int32) (k13 : Nat) (hj13 : j2 ≤ j1) (hk13 : j1 < j2 + (k13 + 1)) (c_6 : ¬ nI j1 ≤ nI j2) (n_9 : j2 < j1) (r_12 : Int32) (c_13 : ¬ r_12 = 0) : j2 < 6 := by
  first | assumption | omega | decide
theorem lf_X7_parted_17 (a : Nat → Nat) (y0 : Nat → Int32) (y1 : Nat → Int32) (y2 : Nat → Int32) (x1 : Nat) (hx1 : x1 < 6) (j1 : Nat) (w1 : Int32) (k4 : Nat) (hj4 : j1 ≤ 6) (hk4 : 6 < j1 + (k4 + 1)) (c_1 : ¬ 6 ≤ nI j1) (n_4 : j1 < 6) (j2 : Nat) (w2 : Int32) (k13 : Nat) (hj13 : j2 ≤ j1) (hk13 : j1 < j2 + (k13 + 1)) (c_6 : ¬ nI j1 ≤ nI j2) (n_9 : j2 < j1) (r_12 : Int32) (c_13 : ¬ r_12 = 0) (r_15 : Int32) (c_16 : ¬ r_15 = 0) : vp_in (nI ((j1 * 6) + x1)) 36 := by
  first | exact vp_in_nI (by omega) (by decide) | (unfold vp_in; decide)
theorem lf_X7_parted_19 (a : Nat → Nat) (y0 : Nat → Int32) (y1 : Nat → Int32) (y2 : Nat → Int32) (x1 : Nat) (hx1 : x1 < 6) (j1 : Nat) (w1 : Int32) (k4 : Nat) (hj4 : j1 ≤ 6) (hk4 : 6 < j1 + (k4 + 1)) (c_1 : ¬ 6 ≤ nI j1) (n_4 : j1 < 6) (j2 : Nat) (w2 : Int32) (k13 : Nat) (hj13 : j2 ≤ j1) (hk13 : j1 < j2 + (k13 + 1)) (c_6 : ¬ nI j1 ≤ nI j2) (n_9 : j2 < j1) (r_12 : Int32) (c_13 : ¬ r_12 = 0) (r_15 : Int32) (c_16 : ¬ r_15 = 0) (x_18 : Int32) : vp_in (nI ((j2 * 6) + x1)) 36 := by
  first | exact vp_in_nI (by omega) (by decide) | (unfold vp_in; decide)
set_option maxHeartbeats 4000000 in
set_option maxRecDepth 100000 in
theorem c_X7_parted (l : Launch) (D : va_G) (cI cB cZ cJ : ClassId) (tx : List (ClassId × FieldType)) (a : Nat → Nat) (y0 : Nat → Int32) (y1 : Nat → Int32) (y2 : Nat → Int32) (x1 : Nat) (hx1 : x1 < 6) : RdI l D cI cB cZ cJ tx yX7_parted cX7_parted 5 (some .int) 2 [.ref (a 12), .int (nI x1)] [(a 12, .inr (7, [.ref (a 48), .ref (a 49), .ref (a 50)])), (a 48, .inl (cI, 36, .inl y0)), (a 49, .inl (cZ, 6, .inl y1)), (a 50, .inl (cI, 6, .inl y2))] (fun r => True) := by
  refine rdi_of2 (by decide) (Nat.le_of_ble_eq_true rfl) ?_
  intro p e s m below meth c A ls H locs hC hK hP hD hA hS hl
  obtain ⟨hx, hb, hr, hml, hown, hts, hlocks, hin⟩ := hC
  have hown : s.vm.findClass RX7 = some m.cls := hown
  have hl : lv_has ls 5 [(0, .ref (a 12)), (1, .int (nI x1))] := hl
  refine lv_iconst (v := 0) hx hb dX7_parted_0 (by decide) ?_
  refine lv_istore_n (lv' := [(2, .int 0), (0, .ref (a 12)), (1, .int (nI x1))]) hx hb dX7_parted_1 rfl hl (by decide) rfl (fun ls hl => ?_)
  refine lv_iconst (v := 0) hx hb dX7_parted_2 (by decide) ?_
  refine lv_istore_n (lv' := [(3, .int 0), (2, .int 0), (0, .ref (a 12)), (1, .int (nI x1))]) hx hb dX7_parted_3 rfl hl (by decide) rfl (fun ls hl => ?_)
  have lp4 : ∀ (k4 : Nat) (j1 : Nat) (w1 : Int32) (H : Heap) (locs : List Loc) (ls : Array Slot), j1 ≤ 6 → 6 < j1 + k4 → va_P D vwCl [(a 12, .inr (7, [.ref (a 48), .ref (a 49), .ref (a 50)])), (a 48, .inl (cI, 36, .inl y0)), (a 49, .inl (cZ, 6, .inl y1)), (a 50, .inl (cI, 6, .inl y2))] H → va_S A s.heap H locs → lv_has ls 5 [(3, .int (nI j1)), (2, .int w1), (0, .ref (a 12)), (1, .int (nI x1))] → W p l e (rmX 2 0 0) s m ([.ref (a 12), .int (nI x1)] : List Value).toArray below meth c H locs 0 0 (MQ below (va_Qi (fun r (_ : Unit) => (fun r => True) r) (fun _ _ => True) A) ([.ref (a 12), .int (nI x1)] : List Value).toArray s 0 0 A) (F0 m 4 ls []) := by
    intro k4
    induction k4 with
    | zero =>
      intro j1 w1 H locs ls hj4 hk4  hP hS hl
      exact absurd hk4 (by omega)
    | succ k4 ih4 =>
      intro j1 w1 H locs ls hj4 hk4  hP hS hl
      refine lv_iload_n hx hb dX7_parted_4 rfl (lv_at hl 0 rfl) ?_
      refine lv_bipush (v := 6) hx hb dX7_parted_5 (by decide) ?_
      refine lv_icmp_ge (tgt := 78) hx hb dX7_parted_7 (by decide) (fun c_1 => ?_) (fun c_1 => ?_)
      · have n_2 : 6 ≤ j1 := (lf_X7_parted_3 a y0 y1 y2 x1 hx1 j1 w1 k4 hj4 hk4 c_1)
        refine lv_iload_n hx hb dX7_parted_78 rfl (lv_at hl 1 rfl) ?_
        exact W.iret (v := w1) hx hb hr (fun tt9 ht hW => ⟨⟨(w1 : Int32), (), rfl, trivial, trivial⟩, hS.F ht⟩) hS.2.2 dX7_parted_79 hlocks
      · have n_4 : j1 < 6 := (lf_X7_parted_5 a y0 y1 y2 x1 hx1 j1 w1 k4 hj4 hk4 c_1)
        refine lv_iconst (v := 0) hx hb dX7_parted_10 (by decide) ?_
        refine lv_istore (lv' := [(4, .int 0), (3, .int (nI j1)), (2, .int w1), (0, .ref (a 12)), (1, .int (nI x1))]) hx hb dX7_parted_11 hl (by decide) rfl (fun ls hl => ?_)
        have lp13 : ∀ (k13 : Nat) (j2 : Nat) (w2 : Int32) (H : Heap) (locs : List Loc) (ls : Array Slot), j2 ≤ j1 → j1 < j2 + k13 → va_P D vwCl [(a 12, .inr (7, [.ref (a 48), .ref (a 49), .ref (a 50)])), (a 48, .inl (cI, 36, .inl y0)), (a 49, .inl (cZ, 6, .inl y1)), (a 50, .inl (cI, 6, .inl y2))] H → va_S A s.heap H locs → lv_has ls 5 [(4, .int (nI j2)), (3, .int (nI j1)), (2, .int w2), (0, .ref (a 12)), (1, .int (nI x1))] → W p l e (rmX 2 0 0) s m ([.ref (a 12), .int (nI x1)] : List Value).toArray below meth c H locs 0 0 (MQ below (va_Qi (fun r (_ : Unit) => (fun r => True) r) (fun _ _ => True) A) ([.ref (a 12), .int (nI x1)] : List Value).toArray s 0 0 A) (F0 m 13 ls []) := by
          intro k13
          induction k13 with
          | zero =>
            intro j2 w2 H locs ls hj13 hk13  hP hS hl
            exact absurd hk13 (by omega)
          | succ k13 ih13 =>
            intro j2 w2 H locs ls hj13 hk13  hP hS hl
            refine lv_iload hx hb dX7_parted_13 (lv_at hl 0 rfl) ?_
            refine lv_iload_n hx hb dX7_parted_15 rfl (lv_at hl 1 rfl) ?_
            refine lv_icmp_ge (tgt := 72) hx hb dX7_parted_16 (by decide) (fun c_6 => ?_) (fun c_6 => ?_)
            · have n_7 : j1 ≤ j2 := (lf_X7_parted_8 a y0 y1 y2 x1 hx1 j1 w1 k4 hj4 hk4 c_1 n_4 j2 w2 k13 hj13 hk13 c_6)
              refine lv_iinc (v := nI (j1 + 1)) (lv' := [(3, .int (nI (j1 + 1))), (4, .int (nI j2)), (2, .int w2), (0, .ref (a 12)), (1, .int (nI x1))]) hx hb dX7_parted_72 hl (k := 1) rfl (nI_1 j1) (by decide) rfl (fun ls hl => ?_)
              refine lv_goto (tgt := 4) hx hb dX7_parted_75 (by decide) ?_
              exact ih4 (j1 + 1) w2 H locs ls (by omega) (by omega)  (hP.sub [0, 1, 2, 3] rfl)  hS (lv_sub hl [0, 2, 3, 4] rfl)
            · have n_9 : j2 < j1 := (lf_X7_parted_10 a y0 y1 y2 x1 hx1 j1 w1 k4 hj4 hk4 c_1 n_4 j2 w2 k13 hj13 hk13 c_6)
              refine lv_aload_n hx hb dX7_parted_19 rfl (lv_at hl 3 rfl) ?_
              refine lv_iload_n hx hb dX7_parted_20 rfl (lv_at hl 1 rfl) ?_
              refine eRi (va_runV (As := [.int (nI j1)]) (rest := []) ⟨hx, hb, hml, hown, hts⟩ (c_X7_counts l D cI cB cZ cJ tx a y0 y1 y2 j1 (lf_X7_parted_11 a y0 y1 y2 x1 hx1 j1 w1 k4 hj4 hk4 c_1 n_4 j2 w2 k13 hj13 hk13 c_6 n_9) H.size) (zV hts k_1230 v_X7_counts ⟨Nat.le_of_ble_eq_true rfl, Nat.le_of_ble_eq_true rfl⟩) (pV (pxS hK hP hD [0, 1, 2, 3] (by decide) rfl) hK hP 0 rfl rfl) rfl rfl hl.1 rfl (lv_room (Nat.le_of_ble_eq_true rfl)) dX7_parted_21 ⟨Nat.le_of_ble_eq_true rfl, Nat.le_of_ble_eq_true rfl⟩) hP hS hA (fun r_12 H locs wr_12 hP hS => ?_)
              refine lv_if_eq (tgt := 66) hx hb dX7_parted_24 (by decide) (fun c_13 => ?_) (fun c_13 => ?_)
              · refine lv_iinc (v := nI (j2 + 1)) (lv' := [(4, .int (nI (j2 + 1))), (3, .int (nI j1)), (2, .int w2), (0, .ref (a 12)), (1, .int (nI x1))]) hx hb dX7_parted_66 hl (k := 0) rfl (nI_1 j2) (by decide) rfl (fun ls hl => ?_)
                refine lv_goto (tgt := 13) hx hb dX7_parted_69 (by decide) ?_
                exact ih13 (j2 + 1) w2 H locs ls (by omega) (by omega)  (hP.sub [0, 1, 2, 3] rfl)  hS (lv_sub hl [0, 1, 2, 3, 4] rfl)
              · refine lv_aload_n hx hb dX7_parted_27 rfl (lv_at hl 3 rfl) ?_
                refine lv_iload hx hb dX7_parted_28 (lv_at hl 0 rfl) ?_
                refine eRi (va_runV (As := [.int (nI j2)]) (rest := []) ⟨hx, hb, hml, hown, hts⟩ (c_X7_counts l D cI cB cZ cJ tx a y0 y1 y2 j2 (lf_X7_parted_14 a y0 y1 y2 x1 hx1 j1 w1 k4 hj4 hk4 c_1 n_4 j2 w2 k13 hj13 hk13 c_6 n_9 r_12 c_13) H.size) (zV hts k_1230 v_X7_counts ⟨Nat.le_of_ble_eq_true rfl, Nat.le_of_ble_eq_true rfl⟩) (pV (pxS hK hP hD [0, 1, 2, 3] (by decide) rfl) hK hP 0 rfl rfl) rfl rfl hl.1 rfl (lv_room (Nat.le_of_ble_eq_true rfl)) dX7_parted_30 ⟨Nat.le_of_ble_eq_true rfl, Nat.le_of_ble_eq_true rfl⟩) hP hS hA (fun r_15 H locs wr_15 hP hS => ?_)
                refine lv_if_eq (tgt := 66) hx hb dX7_parted_33 (by decide) (fun c_16 => ?_) (fun c_16 => ?_)
                · refine lv_iinc (v := nI (j2 + 1)) (lv' := [(4, .int (nI (j2 + 1))), (3, .int (nI j1)), (2, .int w2), (0, .ref (a 12)), (1, .int (nI x1))]) hx hb dX7_parted_66 hl (k := 0) rfl (nI_1 j2) (by decide) rfl (fun ls hl => ?_)
                  refine lv_goto (tgt := 13) hx hb dX7_parted_69 (by decide) ?_
                  exact ih13 (j2 + 1) w2 H locs ls (by omega) (by omega)  (hP.sub [0, 1, 2, 3] rfl)  hS (lv_sub hl [0, 1, 2, 3, 4] rfl)
                · refine lv_iload_n hx hb dX7_parted_36 rfl (lv_at hl 2 rfl) ?_
                  refine lv_aload_n hx hb dX7_parted_37 rfl (lv_at hl 3 rfl) ?_
                  refine va_get (D := D) (ci := 7) (v := .ref (a 48)) (C := RX7) (T := TX7) (N := 3) hx hb hts inT_X7 hown hK.1 hP 0 rfl rfl 0 (by decide) (hts _ k_471) (fun _ h9 => h9) rfl dX7_parted_38 ?_
                  refine lv_iload_n hx hb dX7_parted_41 rfl (lv_at hl 1 rfl) ?_
                  refine lv_bipush (v := 6) hx hb dX7_parted_42 (by decide) ?_
                  refine lv_imul hx hb dX7_parted_44 ?_
                  refine lv_topv (y := nI (j1 * 6)) (pk_mul j1 6) ?_
                  refine lv_iload_n hx hb dX7_parted_45 rfl (lv_at hl 4 rfl) ?_
                  refine lv_iadd hx hb dX7_parted_46 ?_
                  refine lv_topv (y := nI ((j1 * 6) + x1)) (nI_add (j1 * 6) x1) ?_
                  refine ld_i hx hb hK hP 1 rfl (lf_X7_parted_17 a y0 y1 y2 x1 hx1 j1 w1 k4 hj4 hk4 c_1 n_4 j2 w2 k13 hj13 hk13 c_6 n_9 r_12 c_13 r_15 c_16) dX7_parted_47 (fun x_18 => ?_)
                  refine lv_aload_n hx hb dX7_parted_48 rfl (lv_at hl 3 rfl) ?_
                  refine va_get (D := D) (ci := 7) (v := .ref (a 48)) (C := RX7) (T := TX7) (N := 3) hx hb hts inT_X7 hown hK.1 hP 0 rfl rfl 0 (by decide) (hts _ k_471) (fun _ h9 => h9) rfl dX7_parted_49 ?_
                  refine lv_iload hx hb dX7_parted_52 (lv_at hl 0 rfl) ?_
                  refine lv_bipush (v := 6) hx hb dX7_parted_54 (by decide) ?_
                  refine lv_imul hx hb dX7_parted_56 ?_
                  refine lv_topv (y := nI (j2 * 6)) (pk_mul j2 6) ?_
                  refine lv_iload_n hx hb dX7_parted_57 rfl (lv_at hl 4 rfl) ?_
                  refine lv_iadd hx hb dX7_parted_58 ?_
                  refine lv_topv (y := nI ((j2 * 6) + x1)) (nI_add (j2 * 6) x1) ?_
                  refine ld_i hx hb hK hP 1 rfl (lf_X7_parted_19 a y0 y1 y2 x1 hx1 j1 w1 k4 hj4 hk4 c_1 n_4 j2 w2 k13 hj13 hk13 c_6 n_9 r_12 c_13 r_15 c_16 x_18) dX7_parted_59 (fun x_20 => ?_)
                  refine lv_isub hx hb dX7_parted_60 ?_
                  refine lv_topi (fun x_21 ex_21 => ?_)
                  refine va_mabs hx hb (by rw [hml]; exact hl.1.symm) hown (hts _ k_1234) (hts _ k_971) (hts _ k_131) (hts _ k_972) (Nat.le_of_ble_eq_true rfl) (Nat.le_of_ble_eq_true rfl) (Nat.le_of_ble_eq_true rfl) (Nat.le_of_ble_eq_true rfl) dX7_parted_61 ?_
                  refine lv_topi (fun x_22 _ => ?_)
                  refine lv_iadd hx hb dX7_parted_64 ?_
                  refine lv_topi (fun x_23 ex_23 => ?_)
                  refine lv_istore_n (lv' := [(2, .int x_23), (4, .int (nI j2)), (3, .int (nI j1)), (0, .ref (a 12)), (1, .int (nI x1))]) hx hb dX7_parted_65 rfl hl (by decide) rfl (fun ls hl => ?_)
                  refine lv_iinc (v := nI (j2 + 1)) (lv' := [(4, .int (nI (j2 + 1))), (2, .int x_23), (3, .int (nI j1)), (0, .ref (a 12)), (1, .int (nI x1))]) hx hb dX7_parted_66 hl (k := 1) rfl (nI_1 j2) (by decide) rfl (fun ls hl => ?_)
                  refine lv_goto (tgt := 13) hx hb dX7_parted_69 (by decide) ?_
                  exact ih13 (j2 + 1) x_23 H locs ls (by omega) (by omega)  (hP.sub [0, 1, 2, 3] rfl)  hS (lv_sub hl [0, 2, 1, 3, 4] rfl)
        exact lp13 (j1 + 1) 0 w1 H locs ls (by omega) (by omega)  (hP.sub [0, 1, 2, 3] rfl)  hS (lv_sub hl [0, 1, 2, 3, 4] rfl)
  exact lp4 (6 + 1) 0 0 H locs ls (by omega) (by omega)  (hP.sub [0, 1, 2, 3] rfl)  hS (lv_sub hl [0, 1, 2, 3] rfl)

theorem lf_X0_fall_1 (a : Nat → Nat) (dm : Nat) : ((0 : Nat) ≤ 4) := by
  first | omega | assumption | trivial
set_option maxHeartbeats 4000000 in
set_option maxRecDepth 100000 in
theorem c_X0_fall (l : Launch) (D : va_G) (cI cB cZ cJ : ClassId) (tx : List (ClassId × FieldType)) (a : Nat → Nat) (dm : Nat) : WrV l D cI cB cZ cJ tx yX0_fall cX0_fall 1 none 0 0 0 [.ref (a 6)] [(a 6, .inr (0, [.ref (a 5), .ref (a 25), .ref (a 26), .ref (a 27), .ref (a 28), .ref (a 29), .int (nI dm)]))] (fun (v : (Nat)) => (v ≤ 4)) (fun v => [(a 6, .inr (0, [.ref (a 5), .ref (a 25), .ref (a 26), .ref (a 27), .ref (a 28), .ref (a 29), .int (nI v)]))]) := by
  refine wrv_of2 (by decide) (Nat.le_of_ble_eq_true rfl) ?_
  intro p e s m below meth c A ls H locs hC hK hP hD hA hS hl
  obtain ⟨hx, hb, hr, hml, hown, hts, hlocks, hin⟩ := hC
  have hown : s.vm.findClass RX0 = some m.cls := hown
  have hl : lv_has ls 1 [(0, .ref (a 6))] := hl
  refine lv_aload_n hx hb dX0_fall_0 rfl (lv_at hl 0 rfl) ?_
  refine lv_iconst (v := 0) hx hb dX0_fall_1 (by decide) ?_
  refine va_put (D := D) (ci := 0) (v := .int 0) (ty := .int) (C := RX0) (T := TX0) (N := 7) hx hb hts inT_X0 tyX0 tyX0_ok nmX0 hown hK.1 hP hD hS 0 rfl rfl 6 (by decide) (hts _ k_300) (fun _ h9 => h9) rfl (by decide +kernel) rfl rfl (Nat.le_of_ble_eq_true rfl) dX0_fall_2 (fun H locs hP hD hS => ?_)
  have hP : va_P D vwCl [(a 6, .inr (0, [.ref (a 5), .ref (a 25), .ref (a 26), .ref (a 27), .ref (a 28), .ref (a 29), .int 0]))] H := hP
  have hD : va_D A [(a 6, .inr (0, [.ref (a 5), .ref (a 25), .ref (a 26), .ref (a 27), .ref (a 28), .ref (a 29), .int 0]))] := hD
  exact W.vret hx hb hr (fun tt9 ht hW => ⟨⟨((0 : Nat)), rfl, (lf_X0_fall_1 a dm), ⟨by rw [ht]; exact hP, hD⟩⟩, hS.F ht⟩) hS.2.2 dX0_fall_5 hlocks

theorem lf_X0_has_2 (a : Nat → Nat) (dm : Nat) (n1 : Int32) : (bi ((0 : Int32) ≤ n1 ∧ n1 ≤ nI dm - 1) : Int32) = bi (0 ≤ n1 ∧ n1 ≤ nI dm - 1) := by
  rfl
set_option maxHeartbeats 4000000 in
set_option maxRecDepth 100000 in
theorem c_X0_has (l : Launch) (D : va_G) (cI cB cZ cJ : ClassId) (tx : List (ClassId × FieldType)) (a : Nat → Nat) (dm : Nat) (n1 : Int32) : RdI l D cI cB cZ cJ tx yX0_has cX0_has 2 (some .boolean) 1 [.ref (a 6), .int n1] [(a 6, .inr (0, [.ref (a 5), .ref (a 25), .ref (a 26), .ref (a 27), .ref (a 28), .ref (a 29), .int (nI dm)]))] (fun r => r = bi (0 ≤ n1 ∧ n1 ≤ nI dm - 1)) := by
  refine rdi_of2 (by decide) (Nat.le_of_ble_eq_true rfl) ?_
  intro p e s m below meth c A ls H locs hC hK hP hD hA hS hl
  obtain ⟨hx, hb, hr, hml, hown, hts, hlocks, hin⟩ := hC
  have hown : s.vm.findClass RX0 = some m.cls := hown
  have hl : lv_has ls 2 [(0, .ref (a 6)), (1, .int n1)] := hl
  refine lv_iload_n hx hb dX0_has_0 rfl (lv_at hl 1 rfl) ?_
  refine lv_iconst (v := 0) hx hb dX0_has_1 (by decide) ?_
  refine lv_aload_n hx hb dX0_has_2 rfl (lv_at hl 0 rfl) ?_
  refine va_get (D := D) (ci := 0) (v := .int (nI dm)) (C := RX0) (T := TX0) (N := 7) hx hb hts inT_X0 hown hK.1 hP 0 rfl rfl 6 (by decide) (hts _ k_300) (fun _ h9 => h9) rfl dX0_has_3 ?_
  refine lv_iconst (v := 1) hx hb dX0_has_6 (by decide) ?_
  refine lv_isub hx hb dX0_has_7 ?_
  refine eRi (va_runSN (As := [.int n1, .int 0, .int (nI dm - 1)]) (rest := []) ⟨hx, hb, hml, hown, hts⟩ (c_X11_within l D cI cB cZ cJ tx n1 0 (nI dm - 1) H.size) (zSN hts hK n_903 v_X11_within ⟨Nat.le_of_ble_eq_true rfl, Nat.le_of_ble_eq_true rfl⟩) (px0 hK) rfl rfl hl.1 rfl (lv_room (Nat.le_of_ble_eq_true rfl)) dX0_has_8 ⟨Nat.le_of_ble_eq_true rfl, Nat.le_of_ble_eq_true rfl⟩) hP hS hA (fun r_1 H locs wr_1 hP hS => ?_)
  subst wr_1
  exact W.zret (v := bi ((0 : Int32) ≤ n1 ∧ n1 ≤ nI dm - 1)) hx hb hr nb_bi (fun tt9 ht hW => ⟨⟨(bi ((0 : Int32) ≤ n1 ∧ n1 ≤ nI dm - 1) : Int32), (), rfl, (lf_X0_has_2 a dm n1), trivial⟩, hS.F ht⟩) hS.2.2 dX0_has_11 hlocks

theorem lf_X0_begin_3 (a : Nat → Nat) (dm : Nat) (d2 : Nat → Int32) (hdm : dm ≤ 4) (c_1 : nI dm < 4) : dm < 4 := by
  exact (nI_ltI (a := dm) (b := 4) (by omega) (by omega)).mp c_1
theorem lf_X0_begin_6 (a : Nat → Nat) (dm : Nat) (d2 : Nat → Int32) (hdm : dm ≤ 4) (c_1 : nI dm < 4) (n_2 : dm < 4) (j1 : Nat) (y12_a27 : Nat → Int32) (k12 : Nat) (hj12 : j1 ≤ 384) (hk12 : 384 < j1 + (k12 + 1)) (c_4 : 384 ≤ nI j1) : 384 ≤ j1 := by
  exact (nI_leI (a := 384) (b := j1) (by omega) (by omega)).mp c_4
theorem lf_X0_begin_7 (a : Nat → Nat) (dm : Nat) (d2 : Nat → Int32) (hdm : dm ≤ 4) (c_1 : nI dm < 4) (n_2 : dm < 4) (j1 : Nat) (y12_a27 : Nat → Int32) (k12 : Nat) (hj12 : j1 ≤ 384) (hk12 : 384 < j1 + (k12 + 1)) (c_4 : 384 ≤ nI j1) (n_5 : 384 ≤ j1) : (((dm + 1) : Nat) ≤ 4) := by
  first | omega | assumption | trivial
theorem lf_X0_begin_9 (a : Nat → Nat) (dm : Nat) (d2 : Nat → Int32) (hdm : dm ≤ 4) (c_1 : nI dm < 4) (n_2 : dm < 4) (j1 : Nat) (y12_a27 : Nat → Int32) (k12 : Nat) (hj12 : j1 ≤ 384) (hk12 : 384 < j1 + (k12 + 1)) (c_4 : ¬ 384 ≤ nI j1) : j1 < 384 := by
  exact Nat.lt_of_not_le (fun q => c_4 ((nI_leI (a := 384) (b := j1) (by omega) (by omega)).mpr q))
theorem lf_X0_begin_11 (a : Nat → Nat) (dm : Nat) (d2 : Nat → Int32) (hdm : dm ≤ 4) (c_1 : nI dm < 4) (n_2 : dm < 4) (j1 : Nat) (y12_a27 : Nat → Int32) (k12 : Nat) (hj12 : j1 ≤ 384) (hk12 : 384 < j1 + (k12 + 1)) (c_4 : ¬ 384 ≤ nI j1) (n_8 : j1 < 384) : vp_in (nI ((dm * 384) + j1)) 1536 := by
  first | exact vp_in_nI (by omega) (by decide) | (unfold vp_in; decide)
theorem lf_X0_begin_13 (a : Nat → Nat) (dm : Nat) (d2 : Nat → Int32) (hdm : dm ≤ 4) (c_1 : ¬ nI dm < 4) : 4 ≤ dm := by
  exact Nat.le_of_not_lt (fun q => c_1 ((nI_ltI (a := dm) (b := 4) (by omega) (by omega)).mpr q))
theorem lf_X0_begin_14 (a : Nat → Nat) (dm : Nat) (d2 : Nat → Int32) (hdm : dm ≤ 4) (c_1 : ¬ nI dm < 4) (n_12 : 4 ≤ dm) : ((dm : Nat) ≤ 4) := by
  first | omega | assumption | trivial
set_option maxHeartbeats 4000000 in
set_option maxRecDepth 100000 in
theorem c_X0_begin (l : Launch) (D : va_G) (cI cB cZ cJ : ClassId) (tx : List (ClassId × FieldType)) (a : Nat → Nat) (dm : Nat) (d2 : Nat → Int32) (hdm : dm ≤ 4) : WrI l D cI cB cZ cJ tx yX0_begin cX0_begin 2 (some .int) 0 0 0 [.ref (a 6)] [(a 6, .inr (0, [.ref (a 5), .ref (a 25), .ref (a 26), .ref (a 27), .ref (a 28), .ref (a 29), .int (nI dm)])), (a 27, .inl (cZ, 1536, .inl d2))] (fun (r : Int32) (v : (Nat) × (Nat → Int32)) => (v.1 ≤ 4)) (fun v => [(a 6, .inr (0, [.ref (a 5), .ref (a 25), .ref (a 26), .ref (a 27), .ref (a 28), .ref (a 29), .int (nI (v.1))])), (a 27, .inl (cZ, 1536, .inl v.2))]) := by
  refine wri_of2 (by decide) (Nat.le_of_ble_eq_true rfl) ?_
  intro p e s m below meth c A ls H locs hC hK hP hD hA hS hl
  obtain ⟨hx, hb, hr, hml, hown, hts, hlocks, hin⟩ := hC
  have hown : s.vm.findClass RX0 = some m.cls := hown
  have hl : lv_has ls 2 [(0, .ref (a 6))] := hl
  refine lv_aload_n hx hb dX0_begin_0 rfl (lv_at hl 0 rfl) ?_
  refine va_get (D := D) (ci := 0) (v := .int (nI dm)) (C := RX0) (T := TX0) (N := 7) hx hb hts inT_X0 hown hK.1 hP 0 rfl rfl 6 (by decide) (hts _ k_300) (fun _ h9 => h9) rfl dX0_begin_1 ?_
  refine lv_iconst (v := 4) hx hb dX0_begin_4 (by decide) ?_
  refine lv_icmp_lt (tgt := 10) hx hb dX0_begin_5 (by decide) (fun c_1 => ?_) (fun c_1 => ?_)
  · have n_2 : dm < 4 := (lf_X0_begin_3 a dm d2 hdm c_1)
    refine lv_iconst (v := 0) hx hb dX0_begin_10 (by decide) ?_
    refine lv_istore_n (lv' := [(1, .int 0), (0, .ref (a 6))]) hx hb dX0_begin_11 rfl hl (by decide) rfl (fun ls hl => ?_)
    have lp12 : ∀ (k12 : Nat) (j1 : Nat) (y12_a27 : Nat → Int32) (H : Heap) (locs : List Loc) (ls : Array Slot), j1 ≤ 384 → 384 < j1 + k12 → va_P D vwCl [(a 6, .inr (0, [.ref (a 5), .ref (a 25), .ref (a 26), .ref (a 27), .ref (a 28), .ref (a 29), .int (nI dm)])), (a 27, .inl (cZ, 1536, .inl y12_a27))] H → va_D A [(a 6, .inr (0, [.ref (a 5), .ref (a 25), .ref (a 26), .ref (a 27), .ref (a 28), .ref (a 29), .int (nI dm)])), (a 27, .inl (cZ, 1536, .inl y12_a27))] → va_S A s.heap H locs → lv_has ls 2 [(1, .int (nI j1)), (0, .ref (a 6))] → W p l e (rmX 0 0 0) s m ([.ref (a 6)] : List Value).toArray below meth c H locs 0 0 (MQ below (va_Qi (fun (r : Int32) (v : (Nat) × (Nat → Int32)) => (v.1 ≤ 4)) (fun u => BX D A ((fun v => [(a 6, .inr (0, [.ref (a 5), .ref (a 25), .ref (a 26), .ref (a 27), .ref (a 28), .ref (a 29), .int (nI (v.1))])), (a 27, .inl (cZ, 1536, .inl v.2))]) u)) A) ([.ref (a 6)] : List Value).toArray s 0 0 A) (F0 m 12 ls []) := by
      intro k12
      induction k12 with
      | zero =>
        intro j1 y12_a27 H locs ls hj12 hk12  hP hD hS hl
        exact absurd hk12 (by omega)
      | succ k12 ih12 =>
        intro j1 y12_a27 H locs ls hj12 hk12  hP hD hS hl
        refine lv_iload_n hx hb dX0_begin_12 rfl (lv_at hl 0 rfl) ?_
        refine lv_sipush (v := 384) hx hb dX0_begin_13 (by decide) ?_
        refine lv_icmp_ge (tgt := 41) hx hb dX0_begin_16 (by decide) (fun c_4 => ?_) (fun c_4 => ?_)
        · have n_5 : 384 ≤ j1 := (lf_X0_begin_6 a dm d2 hdm c_1 n_2 j1 y12_a27 k12 hj12 hk12 c_4)
          refine lv_aload_n hx hb dX0_begin_41 rfl (lv_at hl 1 rfl) ?_
          refine lv_dup hx hb dX0_begin_42 rfl ?_
          refine va_get (D := D) (ci := 0) (v := .int (nI dm)) (C := RX0) (T := TX0) (N := 7) hx hb hts inT_X0 hown hK.1 hP 0 rfl rfl 6 (by decide) (hts _ k_300) (fun _ h9 => h9) rfl dX0_begin_43 ?_
          refine lv_iconst (v := 1) hx hb dX0_begin_46 (by decide) ?_
          refine lv_iadd hx hb dX0_begin_47 ?_
          refine lv_topv (y := nI (dm + 1)) (nI_add dm 1) ?_
          refine va_put (D := D) (ci := 0) (v := .int (nI (dm + 1))) (ty := .int) (C := RX0) (T := TX0) (N := 7) hx hb hts inT_X0 tyX0 tyX0_ok nmX0 hown hK.1 hP hD hS 0 rfl rfl 6 (by decide) (hts _ k_300) (fun _ h9 => h9) rfl (by decide +kernel) rfl rfl (Nat.le_of_ble_eq_true rfl) dX0_begin_48 (fun H locs hP hD hS => ?_)
          have hP : va_P D vwCl [(a 6, .inr (0, [.ref (a 5), .ref (a 25), .ref (a 26), .ref (a 27), .ref (a 28), .ref (a 29), .int (nI (dm + 1))])), (a 27, .inl (cZ, 1536, .inl y12_a27))] H := hP
          have hD : va_D A [(a 6, .inr (0, [.ref (a 5), .ref (a 25), .ref (a 26), .ref (a 27), .ref (a 28), .ref (a 29), .int (nI (dm + 1))])), (a 27, .inl (cZ, 1536, .inl y12_a27))] := hD
          refine lv_aload_n hx hb dX0_begin_51 rfl (lv_at hl 1 rfl) ?_
          refine va_get (D := D) (ci := 0) (v := .int (nI (dm + 1))) (C := RX0) (T := TX0) (N := 7) hx hb hts inT_X0 hown hK.1 hP 0 rfl rfl 6 (by decide) (hts _ k_300) (fun _ h9 => h9) rfl dX0_begin_52 ?_
          refine lv_iconst (v := 1) hx hb dX0_begin_55 (by decide) ?_
          refine lv_isub hx hb dX0_begin_56 ?_
          exact W.iret (v := nI (dm + 1) - 1) hx hb hr (fun tt9 ht hW => ⟨⟨(nI (dm + 1) - 1 : Int32), (((dm + 1) : Nat), (y12_a27 : Nat → Int32)), rfl, (lf_X0_begin_7 a dm d2 hdm c_1 n_2 j1 y12_a27 k12 hj12 hk12 c_4 n_5), ⟨by rw [ht]; exact hP, hD⟩⟩, hS.F ht⟩) hS.2.2 dX0_begin_57 hlocks
        · have n_8 : j1 < 384 := (lf_X0_begin_9 a dm d2 hdm c_1 n_2 j1 y12_a27 k12 hj12 hk12 c_4)
          refine lv_aload_n hx hb dX0_begin_19 rfl (lv_at hl 1 rfl) ?_
          refine va_get (D := D) (ci := 0) (v := .ref (a 27)) (C := RX0) (T := TX0) (N := 7) hx hb hts inT_X0 hown hK.1 hP 0 rfl rfl 3 (by decide) (hts _ k_297) (fun _ h9 => h9) rfl dX0_begin_20 ?_
          refine lv_aload_n hx hb dX0_begin_23 rfl (lv_at hl 1 rfl) ?_
          refine va_get (D := D) (ci := 0) (v := .int (nI dm)) (C := RX0) (T := TX0) (N := 7) hx hb hts inT_X0 hown hK.1 hP 0 rfl rfl 6 (by decide) (hts _ k_300) (fun _ h9 => h9) rfl dX0_begin_24 ?_
          refine lv_sipush (v := 384) hx hb dX0_begin_27 (by decide) ?_
          refine lv_imul hx hb dX0_begin_30 ?_
          refine lv_topv (y := nI (dm * 384)) (pk_mul dm 384) ?_
          refine lv_iload_n hx hb dX0_begin_31 rfl (lv_at hl 0 rfl) ?_
          refine lv_iadd hx hb dX0_begin_32 ?_
          refine lv_topv (y := nI ((dm * 384) + j1)) (nI_add (dm * 384) j1) ?_
          refine lv_iconst (v := 0) hx hb dX0_begin_33 (by decide) ?_
          refine st_z hx hb hK hP hD hS 1 rfl (lf_X0_begin_11 a dm d2 hdm c_1 n_2 j1 y12_a27 k12 hj12 hk12 c_4 n_8) dX0_begin_34 (fun f_10 H locs hP hD hS => ?_)
          have hP : va_P D vwCl [(a 6, .inr (0, [.ref (a 5), .ref (a 25), .ref (a 26), .ref (a 27), .ref (a 28), .ref (a 29), .int (nI dm)])), (a 27, .inl (cZ, 1536, .inl f_10))] H := hP
          have hD : va_D A [(a 6, .inr (0, [.ref (a 5), .ref (a 25), .ref (a 26), .ref (a 27), .ref (a 28), .ref (a 29), .int (nI dm)])), (a 27, .inl (cZ, 1536, .inl f_10))] := hD
          refine lv_iinc (v := nI (j1 + 1)) (lv' := [(1, .int (nI (j1 + 1))), (0, .ref (a 6))]) hx hb dX0_begin_35 hl (k := 0) rfl (nI_1 j1) (by decide) rfl (fun ls hl => ?_)
          refine lv_goto (tgt := 12) hx hb dX0_begin_38 (by decide) ?_
          exact ih12 (j1 + 1) f_10 H locs ls (by omega) (by omega)  (hP.sub [0, 1] rfl) (hD.sub [0, 1] (by decide) rfl) hS (lv_sub hl [0, 1] rfl)
    exact lp12 (384 + 1) 0 d2 H locs ls (by omega) (by omega)  (hP.sub [0, 1] rfl) (hD.sub [0, 1] (by decide) rfl) hS (lv_sub hl [0, 1] rfl)
  · have n_12 : 4 ≤ dm := (lf_X0_begin_13 a dm d2 hdm c_1)
    refine lv_iconst (v := (-1)) hx hb dX0_begin_8 (by decide) ?_
    exact W.iret (v := (-1)) hx hb hr (fun tt9 ht hW => ⟨⟨((-1) : Int32), ((dm : Nat), (d2 : Nat → Int32)), rfl, (lf_X0_begin_14 a dm d2 hdm c_1 n_12), ⟨by rw [ht]; exact hP, hD⟩⟩, hS.F ht⟩) hS.2.2 dX0_begin_9 hlocks

theorem lf_X0_put_2 (a : Nat → Nat) (dm : Nat) (d0 : Nat → Int32) (d1 : Nat → Int32) (d2 : Nat → Int32) (x1 : Nat) (x2 : Nat) (n3 : Int32) (n4 : Int32) (hx1 : x1 < 4) (hx2 : x2 < 384) : vp_in (nI ((x1 * 384) + x2)) 1536 := by
  first | exact vp_in_nI (by omega) (by decide) | (unfold vp_in; decide)
theorem lf_X0_put_4 (a : Nat → Nat) (dm : Nat) (d0 : Nat → Int32) (d1 : Nat → Int32) (d2 : Nat → Int32) (x1 : Nat) (x2 : Nat) (n3 : Int32) (n4 : Int32) (hx1 : x1 < 4) (hx2 : x2 < 384) (f_1 : Nat → Int32) : vp_in (nI ((x1 * 384) + x2)) 1536 := by
  first | exact vp_in_nI (by omega) (by decide) | (unfold vp_in; decide)
theorem lf_X0_put_6 (a : Nat → Nat) (dm : Nat) (d0 : Nat → Int32) (d1 : Nat → Int32) (d2 : Nat → Int32) (x1 : Nat) (x2 : Nat) (n3 : Int32) (n4 : Int32) (hx1 : x1 < 4) (hx2 : x2 < 384) (f_1 : Nat → Int32) (f_3 : Nat → Int32) : vp_in (nI ((x1 * 384) + x2)) 1536 := by
  first | exact vp_in_nI (by omega) (by decide) | (unfold vp_in; decide)
set_option maxHeartbeats 4000000 in
set_option maxRecDepth 100000 in
theorem c_X0_put (l : Launch) (D : va_G) (cI cB cZ cJ : ClassId) (tx : List (ClassId × FieldType)) (a : Nat → Nat) (dm : Nat) (d0 : Nat → Int32) (d1 : Nat → Int32) (d2 : Nat → Int32) (x1 : Nat) (x2 : Nat) (n3 : Int32) (n4 : Int32) (hx1 : x1 < 4) (hx2 : x2 < 384) : WrV l D cI cB cZ cJ tx yX0_put cX0_put 6 none 0 0 0 [.ref (a 6), .int (nI x1), .int (nI x2), .int n3, .int n4] [(a 6, .inr (0, [.ref (a 5), .ref (a 25), .ref (a 26), .ref (a 27), .ref (a 28), .ref (a 29), .int (nI dm)])), (a 25, .inl (cI, 1536, .inl d0)), (a 26, .inl (cI, 1536, .inl d1)), (a 27, .inl (cZ, 1536, .inl d2))] (fun (v : (Nat → Int32) × (Nat → Int32) × (Nat → Int32)) => True) (fun v => [(a 6, .inr (0, [.ref (a 5), .ref (a 25), .ref (a 26), .ref (a 27), .ref (a 28), .ref (a 29), .int (nI dm)])), (a 25, .inl (cI, 1536, .inl v.1)), (a 26, .inl (cI, 1536, .inl v.2.1)), (a 27, .inl (cZ, 1536, .inl v.2.2))]) := by
  refine wrv_of2 (by decide) (Nat.le_of_ble_eq_true rfl) ?_
  intro p e s m below meth c A ls H locs hC hK hP hD hA hS hl
  obtain ⟨hx, hb, hr, hml, hown, hts, hlocks, hin⟩ := hC
  have hown : s.vm.findClass RX0 = some m.cls := hown
  have hl : lv_has ls 6 [(0, .ref (a 6)), (1, .int (nI x1)), (2, .int (nI x2)), (3, .int n3), (4, .int n4)] := hl
  refine lv_iload_n hx hb dX0_put_0 rfl (lv_at hl 1 rfl) ?_
  refine lv_sipush (v := 384) hx hb dX0_put_1 (by decide) ?_
  refine lv_imul hx hb dX0_put_4 ?_
  refine lv_topv (y := nI (x1 * 384)) (pk_mul x1 384) ?_
  refine lv_iload_n hx hb dX0_put_5 rfl (lv_at hl 2 rfl) ?_
  refine lv_iadd hx hb dX0_put_6 ?_
  refine lv_topv (y := nI ((x1 * 384) + x2)) (nI_add (x1 * 384) x2) ?_
  refine lv_istore (lv' := [(5, .int (nI ((x1 * 384) + x2))), (0, .ref (a 6)), (1, .int (nI x1)), (2, .int (nI x2)), (3, .int n3), (4, .int n4)]) hx hb dX0_put_7 hl (by decide) rfl (fun ls hl => ?_)
  refine lv_aload_n hx hb dX0_put_9 rfl (lv_at hl 1 rfl) ?_
  refine va_get (D := D) (ci := 0) (v := .ref (a 25)) (C := RX0) (T := TX0) (N := 7) hx hb hts inT_X0 hown hK.1 hP 0 rfl rfl 1 (by decide) (hts _ k_295) (fun _ h9 => h9) rfl dX0_put_10 ?_
  refine lv_iload hx hb dX0_put_13 (lv_at hl 0 rfl) ?_
  refine lv_iload_n hx hb dX0_put_15 rfl (lv_at hl 4 rfl) ?_
  refine st_i hx hb hK hP hD hS 1 rfl (lf_X0_put_2 a dm d0 d1 d2 x1 x2 n3 n4 hx1 hx2) dX0_put_16 (fun f_1 H locs hP hD hS => ?_)
  have hP : va_P D vwCl [(a 6, .inr (0, [.ref (a 5), .ref (a 25), .ref (a 26), .ref (a 27), .ref (a 28), .ref (a 29), .int (nI dm)])), (a 25, .inl (cI, 1536, .inl f_1)), (a 26, .inl (cI, 1536, .inl d1)), (a 27, .inl (cZ, 1536, .inl d2))] H := hP
  have hD : va_D A [(a 6, .inr (0, [.ref (a 5), .ref (a 25), .ref (a 26), .ref (a 27), .ref (a 28), .ref (a 29), .int (nI dm)])), (a 25, .inl (cI, 1536, .inl f_1)), (a 26, .inl (cI, 1536, .inl d1)), (a 27, .inl (cZ, 1536, .inl d2))] := hD
  refine lv_aload_n hx hb dX0_put_17 rfl (lv_at hl 1 rfl) ?_
  refine va_get (D := D) (ci := 0) (v := .ref (a 26)) (C := RX0) (T := TX0) (N := 7) hx hb hts inT_X0 hown hK.1 hP 0 rfl rfl 2 (by decide) (hts _ k_296) (fun _ h9 => h9) rfl dX0_put_18 ?_
  refine lv_iload hx hb dX0_put_21 (lv_at hl 0 rfl) ?_
  refine lv_iload hx hb dX0_put_23 (lv_at hl 5 rfl) ?_
  refine st_i hx hb hK hP hD hS 2 rfl (lf_X0_put_4 a dm d0 d1 d2 x1 x2 n3 n4 hx1 hx2 f_1) dX0_put_25 (fun f_3 H locs hP hD hS => ?_)
  have hP : va_P D vwCl [(a 6, .inr (0, [.ref (a 5), .ref (a 25), .ref (a 26), .ref (a 27), .ref (a 28), .ref (a 29), .int (nI dm)])), (a 25, .inl (cI, 1536, .inl f_1)), (a 26, .inl (cI, 1536, .inl f_3)), (a 27, .inl (cZ, 1536, .inl d2))] H := hP
  have hD : va_D A [(a 6, .inr (0, [.ref (a 5), .ref (a 25), .ref (a 26), .ref (a 27), .ref (a 28), .ref (a 29), .int (nI dm)])), (a 25, .inl (cI, 1536, .inl f_1)), (a 26, .inl (cI, 1536, .inl f_3)), (a 27, .inl (cZ, 1536, .inl d2))] := hD
  refine lv_aload_n hx hb dX0_put_26 rfl (lv_at hl 1 rfl) ?_
  refine va_get (D := D) (ci := 0) (v := .ref (a 27)) (C := RX0) (T := TX0) (N := 7) hx hb hts inT_X0 hown hK.1 hP 0 rfl rfl 3 (by decide) (hts _ k_297) (fun _ h9 => h9) rfl dX0_put_27 ?_
  refine lv_iload hx hb dX0_put_30 (lv_at hl 0 rfl) ?_
  refine lv_iconst (v := 1) hx hb dX0_put_32 (by decide) ?_
  refine st_z hx hb hK hP hD hS 3 rfl (lf_X0_put_6 a dm d0 d1 d2 x1 x2 n3 n4 hx1 hx2 f_1 f_3) dX0_put_33 (fun f_5 H locs hP hD hS => ?_)
  have hP : va_P D vwCl [(a 6, .inr (0, [.ref (a 5), .ref (a 25), .ref (a 26), .ref (a 27), .ref (a 28), .ref (a 29), .int (nI dm)])), (a 25, .inl (cI, 1536, .inl f_1)), (a 26, .inl (cI, 1536, .inl f_3)), (a 27, .inl (cZ, 1536, .inl f_5))] H := hP
  have hD : va_D A [(a 6, .inr (0, [.ref (a 5), .ref (a 25), .ref (a 26), .ref (a 27), .ref (a 28), .ref (a 29), .int (nI dm)])), (a 25, .inl (cI, 1536, .inl f_1)), (a 26, .inl (cI, 1536, .inl f_3)), (a 27, .inl (cZ, 1536, .inl f_5))] := hD
  exact W.vret hx hb hr (fun tt9 ht hW => ⟨⟨((f_1 : Nat → Int32), (f_3 : Nat → Int32), (f_5 : Nat → Int32)), rfl, trivial, ⟨by rw [ht]; exact hP, hD⟩⟩, hS.F ht⟩) hS.2.2 dX0_put_34 hlocks

theorem lf_X0_at_2 (a : Nat → Nat) (dm : Nat) (d0 : Nat → Int32) (d1 : Nat → Int32) (x1 : Nat) (x2 : Nat) (n3 : Int32) (hx1 : x1 < 4) (hx2 : x2 < 384) (c_1 : ¬ n3 = 0) : vp_in (nI ((x1 * 384) + x2)) 1536 := by
  first | exact vp_in_nI (by omega) (by decide) | (unfold vp_in; decide)
theorem lf_X0_at_4 (a : Nat → Nat) (dm : Nat) (d0 : Nat → Int32) (d1 : Nat → Int32) (x1 : Nat) (x2 : Nat) (n3 : Int32) (hx1 : x1 < 4) (hx2 : x2 < 384) (c_1 : n3 = 0) : vp_in (nI ((x1 * 384) + x2)) 1536 := by
  first | exact vp_in_nI (by omega) (by decide) | (unfold vp_in; decide)
set_option maxHeartbeats 4000000 in
set_option maxRecDepth 100000 in
theorem c_X0_at (l : Launch) (D : va_G) (cI cB cZ cJ : ClassId) (tx : List (ClassId × FieldType)) (a : Nat → Nat) (dm : Nat) (d0 : Nat → Int32) (d1 : Nat → Int32) (x1 : Nat) (x2 : Nat) (n3 : Int32) (hx1 : x1 < 4) (hx2 : x2 < 384) : RdI l D cI cB cZ cJ tx yX0_at cX0_at 5 (some .int) 0 [.ref (a 6), .int (nI x1), .int (nI x2), .int n3] [(a 6, .inr (0, [.ref (a 5), .ref (a 25), .ref (a 26), .ref (a 27), .ref (a 28), .ref (a 29), .int (nI dm)])), (a 25, .inl (cI, 1536, .inl d0)), (a 26, .inl (cI, 1536, .inl d1))] (fun r => True) := by
  refine rdi_of2 (by decide) (Nat.le_of_ble_eq_true rfl) ?_
  intro p e s m below meth c A ls H locs hC hK hP hD hA hS hl
  obtain ⟨hx, hb, hr, hml, hown, hts, hlocks, hin⟩ := hC
  have hown : s.vm.findClass RX0 = some m.cls := hown
  have hl : lv_has ls 5 [(0, .ref (a 6)), (1, .int (nI x1)), (2, .int (nI x2)), (3, .int n3)] := hl
  refine lv_iload_n hx hb dX0_at_0 rfl (lv_at hl 1 rfl) ?_
  refine lv_sipush (v := 384) hx hb dX0_at_1 (by decide) ?_
  refine lv_imul hx hb dX0_at_4 ?_
  refine lv_topv (y := nI (x1 * 384)) (pk_mul x1 384) ?_
  refine lv_iload_n hx hb dX0_at_5 rfl (lv_at hl 2 rfl) ?_
  refine lv_iadd hx hb dX0_at_6 ?_
  refine lv_topv (y := nI ((x1 * 384) + x2)) (nI_add (x1 * 384) x2) ?_
  refine lv_istore (lv' := [(4, .int (nI ((x1 * 384) + x2))), (0, .ref (a 6)), (1, .int (nI x1)), (2, .int (nI x2)), (3, .int n3)]) hx hb dX0_at_7 hl (by decide) rfl (fun ls hl => ?_)
  refine lv_iload_n hx hb dX0_at_9 rfl (lv_at hl 4 rfl) ?_
  refine lv_if_ne (tgt := 23) hx hb dX0_at_10 (by decide) (fun c_1 => ?_) (fun c_1 => ?_)
  · refine lv_aload_n hx hb dX0_at_23 rfl (lv_at hl 1 rfl) ?_
    refine va_get (D := D) (ci := 0) (v := .ref (a 26)) (C := RX0) (T := TX0) (N := 7) hx hb hts inT_X0 hown hK.1 hP 0 rfl rfl 2 (by decide) (hts _ k_296) (fun _ h9 => h9) rfl dX0_at_24 ?_
    refine lv_iload hx hb dX0_at_27 (lv_at hl 0 rfl) ?_
    refine ld_i hx hb hK hP 2 rfl (lf_X0_at_2 a dm d0 d1 x1 x2 n3 hx1 hx2 c_1) dX0_at_29 (fun x_3 => ?_)
    exact W.iret (v := x_3) hx hb hr (fun tt9 ht hW => ⟨⟨(x_3 : Int32), (), rfl, trivial, trivial⟩, hS.F ht⟩) hS.2.2 dX0_at_30 hlocks
  · refine lv_aload_n hx hb dX0_at_13 rfl (lv_at hl 1 rfl) ?_
    refine va_get (D := D) (ci := 0) (v := .ref (a 25)) (C := RX0) (T := TX0) (N := 7) hx hb hts inT_X0 hown hK.1 hP 0 rfl rfl 1 (by decide) (hts _ k_295) (fun _ h9 => h9) rfl dX0_at_14 ?_
    refine lv_iload hx hb dX0_at_17 (lv_at hl 0 rfl) ?_
    refine ld_i hx hb hK hP 1 rfl (lf_X0_at_4 a dm d0 d1 x1 x2 n3 hx1 hx2 c_1) dX0_at_19 (fun x_5 => ?_)
    refine lv_goto (tgt := 30) hx hb dX0_at_20 (by decide) ?_
    exact W.iret (v := x_5) hx hb hr (fun tt9 ht hW => ⟨⟨(x_5 : Int32), (), rfl, trivial, trivial⟩, hS.F ht⟩) hS.2.2 dX0_at_30 hlocks
