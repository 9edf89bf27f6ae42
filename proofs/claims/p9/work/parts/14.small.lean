theorem lf_X10_tell_2 (a : Nat → Nat) (ot : Nat → Int32) (x1 : Nat) (x2 : Nat) (n3 : Int32) (hx1 : x1 < 24) (hx2 : x2 < 2) : vp_in (nI ((x1 * 2) + x2)) 48 := by
  first | exact vp_in_nI (by omega) (by decide) | (unfold vp_in; decide)
set_option maxHeartbeats 4000000 in
set_option maxRecDepth 100000 in
theorem c_X10_tell (l : Launch) (D : va_G) (cI cB cZ cJ : ClassId) (tx : List (ClassId × FieldType)) (a : Nat → Nat) (ot : Nat → Int32) (x1 : Nat) (x2 : Nat) (n3 : Int32) (hx1 : x1 < 24) (hx2 : x2 < 2) : WrV l D cI cB cZ cJ tx yX10_tell cX10_tell 4 none 0 0 0 [.ref (a 10), .int (nI x1), .int (nI x2), .int n3] [(a 10, .inr (10, [.ref (a 5), .ref (a 46)])), (a 46, .inl (cI, 48, .inl ot))] (fun (v : (Nat → Int32)) => True) (fun v => [(a 10, .inr (10, [.ref (a 5), .ref (a 46)])), (a 46, .inl (cI, 48, .inl v))]) := by
  refine wrv_of2 (by decide) (Nat.le_of_ble_eq_true rfl) ?_
  intro p e s m below meth c A ls H locs hC hK hP hD hA hS hl
  obtain ⟨hx, hb, hr, hml, hown, hts, hlocks, hin⟩ := hC
  have hown : s.vm.findClass RX10 = some m.cls := hown
  have hl : lv_has ls 4 [(0, .ref (a 10)), (1, .int (nI x1)), (2, .int (nI x2)), (3, .int n3)] := hl
  refine lv_aload_n hx hb dX10_tell_0 rfl (lv_at hl 0 rfl) ?_
  refine va_get (D := D) (ci := 10) (v := .ref (a 46)) (C := RX10) (T := TX10) (N := 2) hx hb hts inT_X10 hown hK.1 hP 0 rfl rfl 1 (by decide) (hts _ k_429) (fun _ h9 => h9) rfl dX10_tell_1 ?_
  refine lv_iload_n hx hb dX10_tell_4 rfl (lv_at hl 1 rfl) ?_
  refine lv_iconst (v := 2) hx hb dX10_tell_5 (by decide) ?_
  refine lv_imul hx hb dX10_tell_6 ?_
  refine lv_topv (y := nI (x1 * 2)) (pk_mul x1 2) ?_
  refine lv_iload_n hx hb dX10_tell_7 rfl (lv_at hl 2 rfl) ?_
  refine lv_iadd hx hb dX10_tell_8 ?_
  refine lv_topv (y := nI ((x1 * 2) + x2)) (nI_add (x1 * 2) x2) ?_
  refine lv_iload_n hx hb dX10_tell_9 rfl (lv_at hl 3 rfl) ?_
  refine st_i hx hb hK hP hD hS 1 rfl (lf_X10_tell_2 a ot x1 x2 n3 hx1 hx2) dX10_tell_10 (fun f_1 H locs hP hD hS => ?_)
  have hP : va_P D vwCl [(a 10, .inr (10, [.ref (a 5), .ref (a 46)])), (a 46, .inl (cI, 48, .inl f_1))] H := hP
  have hD : va_D A [(a 10, .inr (10, [.ref (a 5), .ref (a 46)])), (a 46, .inl (cI, 48, .inl f_1))] := hD
  exact W.vret hx hb hr (fun tt9 ht hW => ⟨⟨((f_1 : Nat → Int32)), rfl, trivial, ⟨by rw [ht]; exact hP, hD⟩⟩, hS.F ht⟩) hS.2.2 dX10_tell_11 hlocks

theorem lf_X10_fall_1 (a : Nat → Nat) (ot : Nat → Int32) : 48 < 2 ^ 31 := by
  first | assumption | omega | decide
set_option maxHeartbeats 4000000 in
set_option maxRecDepth 100000 in
theorem c_X10_fall (l : Launch) (D : va_G) (cI cB cZ cJ : ClassId) (tx : List (ClassId × FieldType)) (a : Nat → Nat) (ot : Nat → Int32) : WrV l D cI cB cZ cJ tx yX10_fall cX10_fall 1 none 1 0 0 [.ref (a 10)] [(a 10, .inr (10, [.ref (a 5), .ref (a 46)])), (a 46, .inl (cI, 48, .inl ot))] (fun (v : (Nat → Int32)) => True) (fun v => [(a 10, .inr (10, [.ref (a 5), .ref (a 46)])), (a 46, .inl (cI, 48, .inl v))]) := by
  refine wrv_of2 (by decide) (Nat.le_of_ble_eq_true rfl) ?_
  intro p e s m below meth c A ls H locs hC hK hP hD hA hS hl
  obtain ⟨hx, hb, hr, hml, hown, hts, hlocks, hin⟩ := hC
  have hown : s.vm.findClass RX10 = some m.cls := hown
  have hl : lv_has ls 1 [(0, .ref (a 10))] := hl
  refine lv_aload_n hx hb dX10_fall_0 rfl (lv_at hl 0 rfl) ?_
  refine va_get (D := D) (ci := 10) (v := .ref (a 46)) (C := RX10) (T := TX10) (N := 2) hx hb hts inT_X10 hown hK.1 hP 0 rfl rfl 1 (by decide) (hts _ k_429) (fun _ h9 => h9) rfl dX10_fall_1 ?_
  refine lv_iconst (v := (-1)) hx hb dX10_fall_4 (by decide) ?_
  refine eWv (wr := [(a 10, .inr (10, [.ref (a 5), .ref (a 46)]))]) (va_runS (As := [.ref (a 46), .int (-1)]) (rest := []) ⟨hx, hb, hml, hown, hts⟩ (c_J7_fill l D cI cB cZ cJ tx (a 46) 48 ot (-1) (lf_X10_fall_1 a ot) H.size) (zS hts k_761 v_J7_fill_53178 ⟨Nat.le_of_ble_eq_true rfl, Nat.le_of_ble_eq_true rfl⟩) (pxS hK hP hD [1] (by decide) rfl) rfl rfl hl.1 rfl (lv_room (Nat.le_of_ble_eq_true rfl)) dX10_fall_5 ⟨Nat.le_of_ble_eq_true rfl, Nat.le_of_ble_eq_true rfl⟩) hP hD hS hA [1] [0] rfl rfl (by decide) (by decide) (fun u_3 H locs wr_2 hP hD hS => ?_)
  have hP : va_P D vwCl [(a 10, .inr (10, [.ref (a 5), .ref (a 46)])), (a 46, .inl (cI, 48, .inl u_3))] H := hP
  have hD : va_D A [(a 10, .inr (10, [.ref (a 5), .ref (a 46)])), (a 46, .inl (cI, 48, .inl u_3))] := hD
  exact W.vret hx hb hr (fun tt9 ht hW => ⟨⟨((u_3 : Nat → Int32)), rfl, trivial, ⟨by rw [ht]; exact hP, hD⟩⟩, hS.F ht⟩) hS.2.2 dX10_fall_8 hlocks

theorem lf_X10_at_3 (a : Nat → Nat) (sn : Nat) (sk : Nat) (scu : Int32) (sch : Int32) (ot : Nat → Int32) (x1 : Nat) (x2 : Nat) (hx1 : x1 < 24) (hx2 : x2 < 2) (r_1 : Int32) (c_2 : r_1 = 0) : vp_in (nI ((x1 * 2) + x2)) 48 := by
  first | exact vp_in_nI (by omega) (by decide) | (unfold vp_in; decide)
set_option maxHeartbeats 4000000 in
set_option maxRecDepth 100000 in
theorem c_X10_at (l : Launch) (D : va_G) (cI cB cZ cJ : ClassId) (tx : List (ClassId × FieldType)) (a : Nat → Nat) (sn : Nat) (sk : Nat) (scu : Int32) (sch : Int32) (ot : Nat → Int32) (x1 : Nat) (x2 : Nat) (hx1 : x1 < 24) (hx2 : x2 < 2) : RdI l D cI cB cZ cJ tx yX10_at cX10_at 3 (some .int) 1 [.ref (a 10), .int (nI x1), .int (nI x2)] [(a 10, .inr (10, [.ref (a 5), .ref (a 46)])), (a 5, .inr (4, [.ref (a 18), .ref (a 19), .ref (a 20), .ref (a 21), .ref (a 22), .ref (a 23), .ref (a 24), .int (nI sn), .int (nI sk), .int scu, .int sch])), (a 46, .inl (cI, 48, .inl ot))] (fun r => True) := by
  refine rdi_of2 (by decide) (Nat.le_of_ble_eq_true rfl) ?_
  intro p e s m below meth c A ls H locs hC hK hP hD hA hS hl
  obtain ⟨hx, hb, hr, hml, hown, hts, hlocks, hin⟩ := hC
  have hown : s.vm.findClass RX10 = some m.cls := hown
  have hl : lv_has ls 3 [(0, .ref (a 10)), (1, .int (nI x1)), (2, .int (nI x2))] := hl
  refine lv_aload_n hx hb dX10_at_0 rfl (lv_at hl 0 rfl) ?_
  refine va_get (D := D) (ci := 10) (v := .ref (a 5)) (C := RX10) (T := TX10) (N := 2) hx hb hts inT_X10 hown hK.1 hP 0 rfl rfl 0 (by decide) (hts _ k_428) (fun _ h9 => h9) rfl dX10_at_1 ?_
  refine lv_iload_n hx hb dX10_at_4 rfl (lv_at hl 1 rfl) ?_
  refine eRi (va_runV (As := [.int (nI x1)]) (rest := []) ⟨hx, hb, hml, hown, hts⟩ (c_X4_isCut l D cI cB cZ cJ tx a sn sk scu sch (nI x1) H.size) (zV hts k_1133 v_X4_isCut ⟨Nat.le_of_ble_eq_true rfl, Nat.le_of_ble_eq_true rfl⟩) (pV (px1 hK hP 1 rfl) hK hP 1 rfl rfl) rfl rfl hl.1 rfl (lv_room (Nat.le_of_ble_eq_true rfl)) dX10_at_5 ⟨Nat.le_of_ble_eq_true rfl, Nat.le_of_ble_eq_true rfl⟩) hP hS hA (fun r_1 H locs wr_1 hP hS => ?_)
  refine lv_if_eq (tgt := 15) hx hb dX10_at_8 (by decide) (fun c_2 => ?_) (fun c_2 => ?_)
  · refine lv_aload_n hx hb dX10_at_15 rfl (lv_at hl 0 rfl) ?_
    refine va_get (D := D) (ci := 10) (v := .ref (a 46)) (C := RX10) (T := TX10) (N := 2) hx hb hts inT_X10 hown hK.1 hP 0 rfl rfl 1 (by decide) (hts _ k_429) (fun _ h9 => h9) rfl dX10_at_16 ?_
    refine lv_iload_n hx hb dX10_at_19 rfl (lv_at hl 1 rfl) ?_
    refine lv_iconst (v := 2) hx hb dX10_at_20 (by decide) ?_
    refine lv_imul hx hb dX10_at_21 ?_
    refine lv_topv (y := nI (x1 * 2)) (pk_mul x1 2) ?_
    refine lv_iload_n hx hb dX10_at_22 rfl (lv_at hl 2 rfl) ?_
    refine lv_iadd hx hb dX10_at_23 ?_
    refine lv_topv (y := nI ((x1 * 2) + x2)) (nI_add (x1 * 2) x2) ?_
    refine ld_i hx hb hK hP 2 rfl (lf_X10_at_3 a sn sk scu sch ot x1 x2 hx1 hx2 r_1 c_2) dX10_at_24 (fun x_4 => ?_)
    exact W.iret (v := x_4) hx hb hr (fun tt9 ht hW => ⟨⟨(x_4 : Int32), (), rfl, trivial, trivial⟩, hS.F ht⟩) hS.2.2 dX10_at_25 hlocks
  · refine lv_iconst (v := (-1)) hx hb dX10_at_11 (by decide) ?_
    refine lv_goto (tgt := 25) hx hb dX10_at_12 (by decide) ?_
    exact W.iret (v := (-1)) hx hb hr (fun tt9 ht hW => ⟨⟨((-1) : Int32), (), rfl, trivial, trivial⟩, hS.F ht⟩) hS.2.2 dX10_at_25 hlocks

theorem lf_X10_pairsWithout_3 (a : Nat → Nat) (sn : Nat) (sk : Nat) (scu : Int32) (sch : Int32) (ot : Nat → Int32) (n1 : Int32) (n2 : Int32) (hsn : sn ≤ 24) (hsk : sk ≤ 8) (j1 : Nat) (w1 : Int32) (k5 : Nat) (hj5 : j1 ≤ sn) (hk5 : sn < j1 + (k5 + 1)) (c_1 : nI sn ≤ nI j1) : sn ≤ j1 := by
  exact (nI_leI (a := sn) (b := j1) (by omega) (by omega)).mp c_1
theorem lf_X10_pairsWithout_5 (a : Nat → Nat) (sn : Nat) (sk : Nat) (scu : Int32) (sch : Int32) (ot : Nat → Int32) (n1 : Int32) (n2 : Int32) (hsn : sn ≤ 24) (hsk : sk ≤ 8) (j1 : Nat) (w1 : Int32) (k5 : Nat) (hj5 : j1 ≤ sn) (hk5 : sn < j1 + (k5 + 1)) (c_1 : ¬ nI sn ≤ nI j1) : j1 < sn := by
  exact Nat.lt_of_not_le (fun q => c_1 ((nI_leI (a := sn) (b := j1) (by omega) (by omega)).mpr q))
theorem lf_X10_pairsWithout_6 (a : Nat → Nat) (sn : Nat) (sk : Nat) (scu : Int32) (sch : Int32) (ot : Nat → Int32) (n1 : Int32) (n2 : Int32) (hsn : sn ≤ 24) (hsk : sk ≤ 8) (j1 : Nat) (w1 : Int32) (k5 : Nat) (hj5 : j1 ≤ sn) (hk5 : sn < j1 + (k5 + 1)) (c_1 : ¬ nI sn ≤ nI j1) (n_4 : j1 < sn) : j1 < 24 := by
  first | assumption | omega | decide
theorem lf_X10_pairsWithout_7 (a : Nat → Nat) (sn : Nat) (sk : Nat) (scu : Int32) (sch : Int32) (ot : Nat → Int32) (n1 : Int32) (n2 : Int32) (hsn : sn ≤ 24) (hsk : sk ≤ 8) (j1 : Nat) (w1 : Int32) (k5 : Nat) (hj5 : j1 ≤ sn) (hk5 : sn < j1 + (k5 + 1)) (c_1 : ¬ nI sn ≤ nI j1) (n_4 : j1 < sn) : 0 < 2 := by
  first | assumption | omega | decide
theorem lf_X10_pairsWithout_9 (a : Nat → Nat) (sn : Nat) (sk : Nat) (scu : Int32) (sch : Int32) (ot : Nat → Int32) (n1 : Int32) (n2 : Int32) (hsn : sn ≤ 24) (hsk : sk ≤ 8) (j1 : Nat) (w1 : Int32) (k5 : Nat) (hj5 : j1 ≤ sn) (hk5 : sn < j1 + (k5 + 1)) (c_1 : ¬ nI sn ≤ nI j1) (n_4 : j1 < sn) (r_8 : Int32) : j1 < 24 := by
  first | assumption | omega | decide
theorem lf_X10_pairsWithout_10 (a : Nat → Nat) (sn : Nat) (sk : Nat) (scu : Int32) (sch : Int32) (ot : Nat → Int32) (n1 : Int32) (n2 : Int32) (hsn : sn ≤ 24) (hsk : sk ≤ 8) (j1 : Nat) (w1 : Int32) (k5 : Nat) (hj5 : j1 ≤ sn) (hk5 : sn < j1 + (k5 + 1)) (c_1 : ¬ nI sn ≤ nI j1) (n_4 : j1 < sn) (r_8 : Int32) : 1 < 2 := by
  first | assumption | omega | decide
set_option maxHeartbeats 4000000 in
set_option maxRecDepth 100000 in
theorem c_X10_pairsWithout (l : Launch) (D : va_G) (cI cB cZ cJ : ClassId) (tx : List (ClassId × FieldType)) (a : Nat → Nat) (sn : Nat) (sk : Nat) (scu : Int32) (sch : Int32) (ot : Nat → Int32) (n1 : Int32) (n2 : Int32) (hsn : sn ≤ 24) (hsk : sk ≤ 8) : RdI l D cI cB cZ cJ tx yX10_pairsWithout cX10_pairsWithout 8 (some .int) 2 [.ref (a 10), .int n1, .int n2] [(a 10, .inr (10, [.ref (a 5), .ref (a 46)])), (a 5, .inr (4, [.ref (a 18), .ref (a 19), .ref (a 20), .ref (a 21), .ref (a 22), .ref (a 23), .ref (a 24), .int (nI sn), .int (nI sk), .int scu, .int sch])), (a 46, .inl (cI, 48, .inl ot))] (fun r => True) := by
  refine rdi_of2 (by decide) (Nat.le_of_ble_eq_true rfl) ?_
  intro p e s m below meth c A ls H locs hC hK hP hD hA hS hl
  obtain ⟨hx, hb, hr, hml, hown, hts, hlocks, hin⟩ := hC
  have hown : s.vm.findClass RX10 = some m.cls := hown
  have hl : lv_has ls 8 [(0, .ref (a 10)), (1, .int n1), (2, .int n2)] := hl
  refine lv_iconst (v := 0) hx hb dX10_pairsWithout_0 (by decide) ?_
  refine lv_istore_n (lv' := [(3, .int 0), (0, .ref (a 10)), (1, .int n1), (2, .int n2)]) hx hb dX10_pairsWithout_1 rfl hl (by decide) rfl (fun ls hl => ?_)
  refine lv_iconst (v := 0) hx hb dX10_pairsWithout_2 (by decide) ?_
  refine lv_istore (lv' := [(4, .int 0), (3, .int 0), (0, .ref (a 10)), (1, .int n1), (2, .int n2)]) hx hb dX10_pairsWithout_3 hl (by decide) rfl (fun ls hl => ?_)
  have lp5 : ∀ (k5 : Nat) (j1 : Nat) (w1 : Int32) (H : Heap) (locs : List Loc) (ls : Array Slot), j1 ≤ sn → sn < j1 + k5 → va_P D vwCl [(a 10, .inr (10, [.ref (a 5), .ref (a 46)])), (a 5, .inr (4, [.ref (a 18), .ref (a 19), .ref (a 20), .ref (a 21), .ref (a 22), .ref (a 23), .ref (a 24), .int (nI sn), .int (nI sk), .int scu, .int sch])), (a 46, .inl (cI, 48, .inl ot))] H → va_S A s.heap H locs → lv_has ls 8 [(4, .int (nI j1)), (3, .int w1), (0, .ref (a 10)), (1, .int n1), (2, .int n2)] → W p l e (rmX 2 0 0) s m ([.ref (a 10), .int n1, .int n2] : List Value).toArray below meth c H locs 0 0 (MQ below (va_Qi (fun r (_ : Unit) => (fun r => True) r) (fun _ _ => True) A) ([.ref (a 10), .int n1, .int n2] : List Value).toArray s 0 0 A) (F0 m 5 ls []) := by
    intro k5
    induction k5 with
    | zero =>
      intro j1 w1 H locs ls hj5 hk5  hP hS hl
      exact absurd hk5 (by omega)
    | succ k5 ih5 =>
      intro j1 w1 H locs ls hj5 hk5  hP hS hl
      refine lv_iload hx hb dX10_pairsWithout_5 (lv_at hl 0 rfl) ?_
      refine lv_aload_n hx hb dX10_pairsWithout_7 rfl (lv_at hl 2 rfl) ?_
      refine va_get (D := D) (ci := 10) (v := .ref (a 5)) (C := RX10) (T := TX10) (N := 2) hx hb hts inT_X10 hown hK.1 hP 0 rfl rfl 0 (by decide) (hts _ k_428) (fun _ h9 => h9) rfl dX10_pairsWithout_8 ?_
      refine va_getN (D := D) (ci := 4) (v := .int (nI sn)) (C := RX4) (T := TX4) (N := 11) hx hb hts inT_X4 hown hK.1 hP 1 rfl rfl 7 (by decide) (va_Nw.use rfl (hK.2.2.1 _ n_251)) (fun _ h9 => h9) rfl dX10_pairsWithout_11 ?_
      refine lv_icmp_ge (tgt := 85) hx hb dX10_pairsWithout_14 (by decide) (fun c_1 => ?_) (fun c_1 => ?_)
      · have n_2 : sn ≤ j1 := (lf_X10_pairsWithout_3 a sn sk scu sch ot n1 n2 hsn hsk j1 w1 k5 hj5 hk5 c_1)
        refine lv_iload_n hx hb dX10_pairsWithout_85 rfl (lv_at hl 1 rfl) ?_
        exact W.iret (v := w1) hx hb hr (fun tt9 ht hW => ⟨⟨(w1 : Int32), (), rfl, trivial, trivial⟩, hS.F ht⟩) hS.2.2 dX10_pairsWithout_86 hlocks
      · have n_4 : j1 < sn := (lf_X10_pairsWithout_5 a sn sk scu sch ot n1 n2 hsn hsk j1 w1 k5 hj5 hk5 c_1)
        refine lv_aload_n hx hb dX10_pairsWithout_17 rfl (lv_at hl 2 rfl) ?_
        refine lv_iload hx hb dX10_pairsWithout_18 (lv_at hl 0 rfl) ?_
        refine lv_iconst (v := 0) hx hb dX10_pairsWithout_20 (by decide) ?_
        refine eRi (va_runV (As := [.int (nI j1), .int 0]) (rest := []) ⟨hx, hb, hml, hown, hts⟩ (c_X10_at l D cI cB cZ cJ tx a sn sk scu sch ot j1 0 (lf_X10_pairsWithout_6 a sn sk scu sch ot n1 n2 hsn hsk j1 w1 k5 hj5 hk5 c_1 n_4) (lf_X10_pairsWithout_7 a sn sk scu sch ot n1 n2 hsn hsk j1 w1 k5 hj5 hk5 c_1 n_4) H.size) (zV hts k_1129 v_X10_at ⟨Nat.le_of_ble_eq_true rfl, Nat.le_of_ble_eq_true rfl⟩) (pV (pxS hK hP hD [0, 1, 2] (by decide) rfl) hK hP 0 rfl rfl) rfl rfl hl.1 rfl (lv_room (Nat.le_of_ble_eq_true rfl)) dX10_pairsWithout_21 ⟨Nat.le_of_ble_eq_true rfl, Nat.le_of_ble_eq_true rfl⟩) hP hS hA (fun r_8 H locs wr_8 hP hS => ?_)
        refine lv_istore (lv' := [(5, .int r_8), (4, .int (nI j1)), (3, .int w1), (0, .ref (a 10)), (1, .int n1), (2, .int n2)]) hx hb dX10_pairsWithout_24 hl (by decide) rfl (fun ls hl => ?_)
        refine lv_aload_n hx hb dX10_pairsWithout_26 rfl (lv_at hl 3 rfl) ?_
        refine lv_iload hx hb dX10_pairsWithout_27 (lv_at hl 1 rfl) ?_
        refine lv_iconst (v := 1) hx hb dX10_pairsWithout_29 (by decide) ?_
        refine eRi (va_runV (As := [.int (nI j1), .int 1]) (rest := []) ⟨hx, hb, hml, hown, hts⟩ (c_X10_at l D cI cB cZ cJ tx a sn sk scu sch ot j1 1 (lf_X10_pairsWithout_9 a sn sk scu sch ot n1 n2 hsn hsk j1 w1 k5 hj5 hk5 c_1 n_4 r_8) (lf_X10_pairsWithout_10 a sn sk scu sch ot n1 n2 hsn hsk j1 w1 k5 hj5 hk5 c_1 n_4 r_8) H.size) (zV hts k_1129 v_X10_at ⟨Nat.le_of_ble_eq_true rfl, Nat.le_of_ble_eq_true rfl⟩) (pV (pxS hK hP hD [0, 1, 2] (by decide) rfl) hK hP 0 rfl rfl) rfl rfl hl.1 rfl (lv_room (Nat.le_of_ble_eq_true rfl)) dX10_pairsWithout_30 ⟨Nat.le_of_ble_eq_true rfl, Nat.le_of_ble_eq_true rfl⟩) hP hS hA (fun r_11 H locs wr_11 hP hS => ?_)
        refine lv_istore (lv' := [(6, .int r_11), (5, .int r_8), (4, .int (nI j1)), (3, .int w1), (0, .ref (a 10)), (1, .int n1), (2, .int n2)]) hx hb dX10_pairsWithout_33 hl (by decide) rfl (fun ls hl => ?_)
        refine lv_iload hx hb dX10_pairsWithout_35 (lv_at hl 1 rfl) ?_
        refine lv_iload_n hx hb dX10_pairsWithout_37 rfl (lv_at hl 5 rfl) ?_
        refine lv_icmp_eq (tgt := 59) hx hb dX10_pairsWithout_38 (by decide) (fun c_12 => ?_) (fun c_12 => ?_)
        · refine lv_iconst (v := 1) hx hb dX10_pairsWithout_59 (by decide) ?_
          refine lv_goto (tgt := 64) hx hb dX10_pairsWithout_60 (by decide) ?_
          refine lv_istore (lv' := [(7, .int 1), (6, .int r_11), (5, .int r_8), (4, .int (nI j1)), (3, .int w1), (0, .ref (a 10)), (1, .int n1), (2, .int n2)]) hx hb dX10_pairsWithout_64 hl (by decide) rfl (fun ls hl => ?_)
          refine lv_iload_n hx hb dX10_pairsWithout_66 rfl (lv_at hl 4 rfl) ?_
          refine lv_iload hx hb dX10_pairsWithout_67 (lv_at hl 0 rfl) ?_
          refine lv_if_eq (tgt := 76) hx hb dX10_pairsWithout_69 (by decide) (fun c => absurd c (by decide)) (fun _ => ?_)
          refine lv_iconst (v := 0) hx hb dX10_pairsWithout_72 (by decide) ?_
          refine lv_goto (tgt := 77) hx hb dX10_pairsWithout_73 (by decide) ?_
          refine lv_iadd hx hb dX10_pairsWithout_77 ?_
          refine lv_topi (fun x_13 ex_13 => ?_)
          refine lv_istore_n (lv' := [(3, .int x_13), (7, .int 1), (6, .int r_11), (5, .int r_8), (4, .int (nI j1)), (0, .ref (a 10)), (1, .int n1), (2, .int n2)]) hx hb dX10_pairsWithout_78 rfl hl (by decide) rfl (fun ls hl => ?_)
          refine lv_iinc (v := nI (j1 + 1)) (lv' := [(4, .int (nI (j1 + 1))), (3, .int x_13), (7, .int 1), (6, .int r_11), (5, .int r_8), (0, .ref (a 10)), (1, .int n1), (2, .int n2)]) hx hb dX10_pairsWithout_79 hl (k := 4) rfl (nI_1 j1) (by decide) rfl (fun ls hl => ?_)
          refine lv_goto (tgt := 5) hx hb dX10_pairsWithout_82 (by decide) ?_
          exact ih5 (j1 + 1) x_13 H locs ls (by omega) (by omega)  (hP.sub [0, 1, 2] rfl)  hS (lv_sub hl [0, 1, 5, 6, 7] rfl)
        · refine lv_iload hx hb dX10_pairsWithout_41 (lv_at hl 1 rfl) ?_
          refine lv_iload_n hx hb dX10_pairsWithout_43 rfl (lv_at hl 6 rfl) ?_
          refine lv_icmp_eq (tgt := 59) hx hb dX10_pairsWithout_44 (by decide) (fun c_14 => ?_) (fun c_14 => ?_)
          · refine lv_iconst (v := 1) hx hb dX10_pairsWithout_59 (by decide) ?_
            refine lv_goto (tgt := 64) hx hb dX10_pairsWithout_60 (by decide) ?_
            refine lv_istore (lv' := [(7, .int 1), (6, .int r_11), (5, .int r_8), (4, .int (nI j1)), (3, .int w1), (0, .ref (a 10)), (1, .int n1), (2, .int n2)]) hx hb dX10_pairsWithout_64 hl (by decide) rfl (fun ls hl => ?_)
            refine lv_iload_n hx hb dX10_pairsWithout_66 rfl (lv_at hl 4 rfl) ?_
            refine lv_iload hx hb dX10_pairsWithout_67 (lv_at hl 0 rfl) ?_
            refine lv_if_eq (tgt := 76) hx hb dX10_pairsWithout_69 (by decide) (fun c => absurd c (by decide)) (fun _ => ?_)
            refine lv_iconst (v := 0) hx hb dX10_pairsWithout_72 (by decide) ?_
            refine lv_goto (tgt := 77) hx hb dX10_pairsWithout_73 (by decide) ?_
            refine lv_iadd hx hb dX10_pairsWithout_77 ?_
            refine lv_topi (fun x_15 ex_15 => ?_)
            refine lv_istore_n (lv' := [(3, .int x_15), (7, .int 1), (6, .int r_11), (5, .int r_8), (4, .int (nI j1)), (0, .ref (a 10)), (1, .int n1), (2, .int n2)]) hx hb dX10_pairsWithout_78 rfl hl (by decide) rfl (fun ls hl => ?_)
            refine lv_iinc (v := nI (j1 + 1)) (lv' := [(4, .int (nI (j1 + 1))), (3, .int x_15), (7, .int 1), (6, .int r_11), (5, .int r_8), (0, .ref (a 10)), (1, .int n1), (2, .int n2)]) hx hb dX10_pairsWithout_79 hl (k := 4) rfl (nI_1 j1) (by decide) rfl (fun ls hl => ?_)
            refine lv_goto (tgt := 5) hx hb dX10_pairsWithout_82 (by decide) ?_
            exact ih5 (j1 + 1) x_15 H locs ls (by omega) (by omega)  (hP.sub [0, 1, 2] rfl)  hS (lv_sub hl [0, 1, 5, 6, 7] rfl)
          · refine lv_iload hx hb dX10_pairsWithout_47 (lv_at hl 0 rfl) ?_
            refine lv_iload_n hx hb dX10_pairsWithout_49 rfl (lv_at hl 5 rfl) ?_
            refine lv_icmp_eq (tgt := 59) hx hb dX10_pairsWithout_50 (by decide) (fun c_16 => ?_) (fun c_16 => ?_)
            · refine lv_iconst (v := 1) hx hb dX10_pairsWithout_59 (by decide) ?_
              refine lv_goto (tgt := 64) hx hb dX10_pairsWithout_60 (by decide) ?_
              refine lv_istore (lv' := [(7, .int 1), (6, .int r_11), (5, .int r_8), (4, .int (nI j1)), (3, .int w1), (0, .ref (a 10)), (1, .int n1), (2, .int n2)]) hx hb dX10_pairsWithout_64 hl (by decide) rfl (fun ls hl => ?_)
              refine lv_iload_n hx hb dX10_pairsWithout_66 rfl (lv_at hl 4 rfl) ?_
              refine lv_iload hx hb dX10_pairsWithout_67 (lv_at hl 0 rfl) ?_
              refine lv_if_eq (tgt := 76) hx hb dX10_pairsWithout_69 (by decide) (fun c => absurd c (by decide)) (fun _ => ?_)
              refine lv_iconst (v := 0) hx hb dX10_pairsWithout_72 (by decide) ?_
              refine lv_goto (tgt := 77) hx hb dX10_pairsWithout_73 (by decide) ?_
              refine lv_iadd hx hb dX10_pairsWithout_77 ?_
              refine lv_topi (fun x_17 ex_17 => ?_)
              refine lv_istore_n (lv' := [(3, .int x_17), (7, .int 1), (6, .int r_11), (5, .int r_8), (4, .int (nI j1)), (0, .ref (a 10)), (1, .int n1), (2, .int n2)]) hx hb dX10_pairsWithout_78 rfl hl (by decide) rfl (fun ls hl => ?_)
              refine lv_iinc (v := nI (j1 + 1)) (lv' := [(4, .int (nI (j1 + 1))), (3, .int x_17), (7, .int 1), (6, .int r_11), (5, .int r_8), (0, .ref (a 10)), (1, .int n1), (2, .int n2)]) hx hb dX10_pairsWithout_79 hl (k := 4) rfl (nI_1 j1) (by decide) rfl (fun ls hl => ?_)
              refine lv_goto (tgt := 5) hx hb dX10_pairsWithout_82 (by decide) ?_
              exact ih5 (j1 + 1) x_17 H locs ls (by omega) (by omega)  (hP.sub [0, 1, 2] rfl)  hS (lv_sub hl [0, 1, 5, 6, 7] rfl)
            · refine lv_iload hx hb dX10_pairsWithout_53 (lv_at hl 0 rfl) ?_
              refine lv_iload_n hx hb dX10_pairsWithout_55 rfl (lv_at hl 6 rfl) ?_
              refine lv_icmp_ne (tgt := 63) hx hb dX10_pairsWithout_56 (by decide) (fun c_18 => ?_) (fun c_18 => ?_)
              · refine lv_iconst (v := 0) hx hb dX10_pairsWithout_63 (by decide) ?_
                refine lv_istore (lv' := [(7, .int 0), (6, .int r_11), (5, .int r_8), (4, .int (nI j1)), (3, .int w1), (0, .ref (a 10)), (1, .int n1), (2, .int n2)]) hx hb dX10_pairsWithout_64 hl (by decide) rfl (fun ls hl => ?_)
                refine lv_iload_n hx hb dX10_pairsWithout_66 rfl (lv_at hl 4 rfl) ?_
                refine lv_iload hx hb dX10_pairsWithout_67 (lv_at hl 0 rfl) ?_
                refine lv_if_eq (tgt := 76) hx hb dX10_pairsWithout_69 (by decide) (fun _ => ?_) (fun c => absurd c (by decide))
                refine lv_iconst (v := 1) hx hb dX10_pairsWithout_76 (by decide) ?_
                refine lv_iadd hx hb dX10_pairsWithout_77 ?_
                refine lv_topi (fun x_19 ex_19 => ?_)
                refine lv_istore_n (lv' := [(3, .int x_19), (7, .int 0), (6, .int r_11), (5, .int r_8), (4, .int (nI j1)), (0, .ref (a 10)), (1, .int n1), (2, .int n2)]) hx hb dX10_pairsWithout_78 rfl hl (by decide) rfl (fun ls hl => ?_)
                refine lv_iinc (v := nI (j1 + 1)) (lv' := [(4, .int (nI (j1 + 1))), (3, .int x_19), (7, .int 0), (6, .int r_11), (5, .int r_8), (0, .ref (a 10)), (1, .int n1), (2, .int n2)]) hx hb dX10_pairsWithout_79 hl (k := 4) rfl (nI_1 j1) (by decide) rfl (fun ls hl => ?_)
                refine lv_goto (tgt := 5) hx hb dX10_pairsWithout_82 (by decide) ?_
                exact ih5 (j1 + 1) x_19 H locs ls (by omega) (by omega)  (hP.sub [0, 1, 2] rfl)  hS (lv_sub hl [0, 1, 5, 6, 7] rfl)
              · refine lv_iconst (v := 1) hx hb dX10_pairsWithout_59 (by decide) ?_
                refine lv_goto (tgt := 64) hx hb dX10_pairsWithout_60 (by decide) ?_
                refine lv_istore (lv' := [(7, .int 1), (6, .int r_11), (5, .int r_8), (4, .int (nI j1)), (3, .int w1), (0, .ref (a 10)), (1, .int n1), (2, .int n2)]) hx hb dX10_pairsWithout_64 hl (by decide) rfl (fun ls hl => ?_)
                refine lv_iload_n hx hb dX10_pairsWithout_66 rfl (lv_at hl 4 rfl) ?_
                refine lv_iload hx hb dX10_pairsWithout_67 (lv_at hl 0 rfl) ?_
                refine lv_if_eq (tgt := 76) hx hb dX10_pairsWithout_69 (by decide) (fun c => absurd c (by decide)) (fun _ => ?_)
                refine lv_iconst (v := 0) hx hb dX10_pairsWithout_72 (by decide) ?_
                refine lv_goto (tgt := 77) hx hb dX10_pairsWithout_73 (by decide) ?_
                refine lv_iadd hx hb dX10_pairsWithout_77 ?_
                refine lv_topi (fun x_20 ex_20 => ?_)
                refine lv_istore_n (lv' := [(3, .int x_20), (7, .int 1), (6, .int r_11), (5, .int r_8), (4, .int (nI j1)), (0, .ref (a 10)), (1, .int n1), (2, .int n2)]) hx hb dX10_pairsWithout_78 rfl hl (by decide) rfl (fun ls hl => ?_)
                refine lv_iinc (v := nI (j1 + 1)) (lv' := [(4, .int (nI (j1 + 1))), (3, .int x_20), (7, .int 1), (6, .int r_11), (5, .int r_8), (0, .ref (a 10)), (1, .int n1), (2, .int n2)]) hx hb dX10_pairsWithout_79 hl (k := 4) rfl (nI_1 j1) (by decide) rfl (fun ls hl => ?_)
                refine lv_goto (tgt := 5) hx hb dX10_pairsWithout_82 (by decide) ?_
                exact ih5 (j1 + 1) x_20 H locs ls (by omega) (by omega)  (hP.sub [0, 1, 2] rfl)  hS (lv_sub hl [0, 1, 5, 6, 7] rfl)
  exact lp5 (sn + 1) 0 0 H locs ls (by omega) (by omega)  (hP.sub [0, 1, 2] rfl)  hS (lv_sub hl [0, 1, 2, 3, 4] rfl)

theorem lf_X10_those_3 (a : Nat → Nat) (sn : Nat) (sk : Nat) (scu : Int32) (sch : Int32) (ot : Nat → Int32) (n1 : Int32) (hsn : sn ≤ 24) (hsk : sk ≤ 8) (j1 : Nat) (w1 : Int32) (k4 : Nat) (hj4 : j1 ≤ sn) (hk4 : sn < j1 + (k4 + 1)) (c_1 : nI sn ≤ nI j1) : sn ≤ j1 := by
  exact (nI_leI (a := sn) (b := j1) (by omega) (by omega)).mp c_1
theorem lf_X10_those_5 (a : Nat → Nat) (sn : Nat) (sk : Nat) (scu : Int32) (sch : Int32) (ot : Nat → Int32) (n1 : Int32) (hsn : sn ≤ 24) (hsk : sk ≤ 8) (j1 : Nat) (w1 : Int32) (k4 : Nat) (hj4 : j1 ≤ sn) (hk4 : sn < j1 + (k4 + 1)) (c_1 : ¬ nI sn ≤ nI j1) : j1 < sn := by
  exact Nat.lt_of_not_le (fun q => c_1 ((nI_leI (a := sn) (b := j1) (by omega) (by omega)).mpr q))
theorem lf_X10_those_6 (a : Nat → Nat) (sn : Nat) (sk : Nat) (scu : Int32) (sch : Int32) (ot : Nat → Int32) (n1 : Int32) (hsn : sn ≤ 24) (hsk : sk ≤ 8) (j1 : Nat) (w1 : Int32) (k4 : Nat) (hj4 : j1 ≤ sn) (hk4 : sn < j1 + (k4 + 1)) (c_1 : ¬ nI sn ≤ nI j1) (n_4 : j1 < sn) : j1 < 24 := by
  first | assumption | omega | decide
theorem lf_X10_those_7 (a : Nat → Nat) (sn : Nat) (sk : Nat) (scu : Int32) (sch : Int32) (ot : Nat → Int32) (n1 : Int32) (hsn : sn ≤ 24) (hsk : sk ≤ 8) (j1 : Nat) (w1 : Int32) (k4 : Nat) (hj4 : j1 ≤ sn) (hk4 : sn < j1 + (k4 + 1)) (c_1 : ¬ nI sn ≤ nI j1) (n_4 : j1 < sn) : 0 < 2 := by
  first | assumption | omega | decide
theorem lf_X10_those_11 (a : Nat → Nat) (sn : Nat) (sk : Nat) (scu : Int32) (sch : Int32) (ot : Nat → Int32) (n1 : Int32) (hsn : sn ≤ 24) (hsk : sk ≤ 8) (j1 : Nat) (w1 : Int32) (k4 : Nat) (hj4 : j1 ≤ sn) (hk4 : sn < j1 + (k4 + 1)) (c_1 : ¬ nI sn ≤ nI j1) (n_4 : j1 < sn) (r_8 : Int32) (c_9 : r_8 < n1) (x_10 : Int32) (ex_10 : x_10 = w1 + 0) : j1 < 24 := by
  first | assumption | omega | decide
theorem lf_X10_those_12 (a : Nat → Nat) (sn : Nat) (sk : Nat) (scu : Int32) (sch : Int32) (ot : Nat → Int32) (n1 : Int32) (hsn : sn ≤ 24) (hsk : sk ≤ 8) (j1 : Nat) (w1 : Int32) (k4 : Nat) (hj4 : j1 ≤ sn) (hk4 : sn < j1 + (k4 + 1)) (c_1 : ¬ nI sn ≤ nI j1) (n_4 : j1 < sn) (r_8 : Int32) (c_9 : r_8 < n1) (x_10 : Int32) (ex_10 : x_10 = w1 + 0) : 1 < 2 := by
  first | assumption | omega | decide
theorem lf_X10_those_18 (a : Nat → Nat) (sn : Nat) (sk : Nat) (scu : Int32) (sch : Int32) (ot : Nat → Int32) (n1 : Int32) (hsn : sn ≤ 24) (hsk : sk ≤ 8) (j1 : Nat) (w1 : Int32) (k4 : Nat) (hj4 : j1 ≤ sn) (hk4 : sn < j1 + (k4 + 1)) (c_1 : ¬ nI sn ≤ nI j1) (n_4 : j1 < sn) (r_8 : Int32) (c_9 : ¬ r_8 < n1) (x_17 : Int32) (ex_17 : x_17 = w1 + 1) : j1 < 24 := by
  first | assumption | omega | decide
theorem lf_X10_those_19 (a : Nat → Nat) (sn : Nat) (sk : Nat) (scu : Int32) (sch : Int32) (ot : Nat → Int32) (n1 : Int32) (hsn : sn ≤ 24) (hsk : sk ≤ 8) (j1 : Nat) (w1 : Int32) (k4 : Nat) (hj4 : j1 ≤ sn) (hk4 : sn < j1 + (k4 + 1)) (c_1 : ¬ nI sn ≤ nI j1) (n_4 : j1 < sn) (r_8 : Int32) (c_9 : ¬ r_8 < n1) (x_17 : Int32) (ex_17 : x_17 = w1 + 1) : 1 < 2 := by
  first | assumption | omega | decide
set_option maxHeartbeats 4000000 in
set_option maxRecDepth 100000 in
theorem c_X10_those (l : Launch) (D : va_G) (cI cB cZ cJ : ClassId) (tx : List (ClassId × FieldType)) (a : Nat → Nat) (sn : Nat) (sk : Nat) (scu : Int32) (sch : Int32) (ot : Nat → Int32) (n1 : Int32) (hsn : sn ≤ 24) (hsk : sk ≤ 8) : RdI l D cI cB cZ cJ tx yX10_those cX10_those 4 (some .int) 2 [.ref (a 10), .int n1] [(a 10, .inr (10, [.ref (a 5), .ref (a 46)])), (a 5, .inr (4, [.ref (a 18), .ref (a 19), .ref (a 20), .ref (a 21), .ref (a 22), .ref (a 23), .ref (a 24), .int (nI sn), .int (nI sk), .int scu, .int sch])), (a 46, .inl (cI, 48, .inl ot))] (fun r => True) := by
  refine rdi_of2 (by decide) (Nat.le_of_ble_eq_true rfl) ?_
  intro p e s m below meth c A ls H locs hC hK hP hD hA hS hl
  obtain ⟨hx, hb, hr, hml, hown, hts, hlocks, hin⟩ := hC
  have hown : s.vm.findClass RX10 = some m.cls := hown
  have hl : lv_has ls 4 [(0, .ref (a 10)), (1, .int n1)] := hl
  refine lv_iconst (v := 0) hx hb dX10_those_0 (by decide) ?_
  refine lv_istore_n (lv' := [(2, .int 0), (0, .ref (a 10)), (1, .int n1)]) hx hb dX10_those_1 rfl hl (by decide) rfl (fun ls hl => ?_)
  refine lv_iconst (v := 0) hx hb dX10_those_2 (by decide) ?_
  refine lv_istore_n (lv' := [(3, .int 0), (2, .int 0), (0, .ref (a 10)), (1, .int n1)]) hx hb dX10_those_3 rfl hl (by decide) rfl (fun ls hl => ?_)
  have lp4 : ∀ (k4 : Nat) (j1 : Nat) (w1 : Int32) (H : Heap) (locs : List Loc) (ls : Array Slot), j1 ≤ sn → sn < j1 + k4 → va_P D vwCl [(a 10, .inr (10, [.ref (a 5), .ref (a 46)])), (a 5, .inr (4, [.ref (a 18), .ref (a 19), .ref (a 20), .ref (a 21), .ref (a 22), .ref (a 23), .ref (a 24), .int (nI sn), .int (nI sk), .int scu, .int sch])), (a 46, .inl (cI, 48, .inl ot))] H → va_S A s.heap H locs → lv_has ls 4 [(3, .int (nI j1)), (2, .int w1), (0, .ref (a 10)), (1, .int n1)] → W p l e (rmX 2 0 0) s m ([.ref (a 10), .int n1] : List Value).toArray below meth c H locs 0 0 (MQ below (va_Qi (fun r (_ : Unit) => (fun r => True) r) (fun _ _ => True) A) ([.ref (a 10), .int n1] : List Value).toArray s 0 0 A) (F0 m 4 ls []) := by
    intro k4
    induction k4 with
    | zero =>
      intro j1 w1 H locs ls hj4 hk4  hP hS hl
      exact absurd hk4 (by omega)
    | succ k4 ih4 =>
      intro j1 w1 H locs ls hj4 hk4  hP hS hl
      refine lv_iload_n hx hb dX10_those_4 rfl (lv_at hl 0 rfl) ?_
      refine lv_aload_n hx hb dX10_those_5 rfl (lv_at hl 2 rfl) ?_
      refine va_get (D := D) (ci := 10) (v := .ref (a 5)) (C := RX10) (T := TX10) (N := 2) hx hb hts inT_X10 hown hK.1 hP 0 rfl rfl 0 (by decide) (hts _ k_428) (fun _ h9 => h9) rfl dX10_those_6 ?_
      refine va_getN (D := D) (ci := 4) (v := .int (nI sn)) (C := RX4) (T := TX4) (N := 11) hx hb hts inT_X4 hown hK.1 hP 1 rfl rfl 7 (by decide) (va_Nw.use rfl (hK.2.2.1 _ n_251)) (fun _ h9 => h9) rfl dX10_those_9 ?_
      refine lv_icmp_ge (tgt := 57) hx hb dX10_those_12 (by decide) (fun c_1 => ?_) (fun c_1 => ?_)
      · have n_2 : sn ≤ j1 := (lf_X10_those_3 a sn sk scu sch ot n1 hsn hsk j1 w1 k4 hj4 hk4 c_1)
        refine lv_iload_n hx hb dX10_those_57 rfl (lv_at hl 1 rfl) ?_
        exact W.iret (v := w1) hx hb hr (fun tt9 ht hW => ⟨⟨(w1 : Int32), (), rfl, trivial, trivial⟩, hS.F ht⟩) hS.2.2 dX10_those_58 hlocks
      · have n_4 : j1 < sn := (lf_X10_those_5 a sn sk scu sch ot n1 hsn hsk j1 w1 k4 hj4 hk4 c_1)
        refine lv_iload_n hx hb dX10_those_15 rfl (lv_at hl 1 rfl) ?_
        refine lv_aload_n hx hb dX10_those_16 rfl (lv_at hl 2 rfl) ?_
        refine lv_iload_n hx hb dX10_those_17 rfl (lv_at hl 0 rfl) ?_
        refine lv_iconst (v := 0) hx hb dX10_those_18 (by decide) ?_
        refine eRi (va_runV (As := [.int (nI j1), .int 0]) (rest := [.int w1]) ⟨hx, hb, hml, hown, hts⟩ (c_X10_at l D cI cB cZ cJ tx a sn sk scu sch ot j1 0 (lf_X10_those_6 a sn sk scu sch ot n1 hsn hsk j1 w1 k4 hj4 hk4 c_1 n_4) (lf_X10_those_7 a sn sk scu sch ot n1 hsn hsk j1 w1 k4 hj4 hk4 c_1 n_4) H.size) (zV hts k_1129 v_X10_at ⟨Nat.le_of_ble_eq_true rfl, Nat.le_of_ble_eq_true rfl⟩) (pV (pxS hK hP hD [0, 1, 2] (by decide) rfl) hK hP 0 rfl rfl) rfl rfl hl.1 rfl (lv_room (Nat.le_of_ble_eq_true rfl)) dX10_those_19 ⟨Nat.le_of_ble_eq_true rfl, Nat.le_of_ble_eq_true rfl⟩) hP hS hA (fun r_8 H locs wr_8 hP hS => ?_)
        refine lv_iload_n hx hb dX10_those_22 rfl (lv_at hl 3 rfl) ?_
        refine lv_icmp_lt (tgt := 30) hx hb dX10_those_23 (by decide) (fun c_9 => ?_) (fun c_9 => ?_)
        · refine lv_iconst (v := 0) hx hb dX10_those_30 (by decide) ?_
          refine lv_iadd hx hb dX10_those_31 ?_
          refine lv_topi (fun x_10 ex_10 => ?_)
          refine lv_istore_n (lv' := [(2, .int x_10), (3, .int (nI j1)), (0, .ref (a 10)), (1, .int n1)]) hx hb dX10_those_32 rfl hl (by decide) rfl (fun ls hl => ?_)
          refine lv_iload_n hx hb dX10_those_33 rfl (lv_at hl 0 rfl) ?_
          refine lv_aload_n hx hb dX10_those_34 rfl (lv_at hl 2 rfl) ?_
          refine lv_iload_n hx hb dX10_those_35 rfl (lv_at hl 1 rfl) ?_
          refine lv_iconst (v := 1) hx hb dX10_those_36 (by decide) ?_
          refine eRi (va_runV (As := [.int (nI j1), .int 1]) (rest := [.int x_10]) ⟨hx, hb, hml, hown, hts⟩ (c_X10_at l D cI cB cZ cJ tx a sn sk scu sch ot j1 1 (lf_X10_those_11 a sn sk scu sch ot n1 hsn hsk j1 w1 k4 hj4 hk4 c_1 n_4 r_8 c_9 x_10 ex_10) (lf_X10_those_12 a sn sk scu sch ot n1 hsn hsk j1 w1 k4 hj4 hk4 c_1 n_4 r_8 c_9 x_10 ex_10) H.size) (zV hts k_1129 v_X10_at ⟨Nat.le_of_ble_eq_true rfl, Nat.le_of_ble_eq_true rfl⟩) (pV (pxS hK hP hD [0, 1, 2] (by decide) rfl) hK hP 0 rfl rfl) rfl rfl hl.1 rfl (lv_room (Nat.le_of_ble_eq_true rfl)) dX10_those_37 ⟨Nat.le_of_ble_eq_true rfl, Nat.le_of_ble_eq_true rfl⟩) hP hS hA (fun r_13 H locs wr_13 hP hS => ?_)
          refine lv_iload_n hx hb dX10_those_40 rfl (lv_at hl 3 rfl) ?_
          refine lv_icmp_lt (tgt := 48) hx hb dX10_those_41 (by decide) (fun c_14 => ?_) (fun c_14 => ?_)
          · refine lv_iconst (v := 0) hx hb dX10_those_48 (by decide) ?_
            refine lv_iadd hx hb dX10_those_49 ?_
            refine lv_topi (fun x_15 ex_15 => ?_)
            refine lv_istore_n (lv' := [(2, .int x_15), (3, .int (nI j1)), (0, .ref (a 10)), (1, .int n1)]) hx hb dX10_those_50 rfl hl (by decide) rfl (fun ls hl => ?_)
            refine lv_iinc (v := nI (j1 + 1)) (lv' := [(3, .int (nI (j1 + 1))), (2, .int x_15), (0, .ref (a 10)), (1, .int n1)]) hx hb dX10_those_51 hl (k := 1) rfl (nI_1 j1) (by decide) rfl (fun ls hl => ?_)
            refine lv_goto (tgt := 4) hx hb dX10_those_54 (by decide) ?_
            exact ih4 (j1 + 1) x_15 H locs ls (by omega) (by omega)  (hP.sub [0, 1, 2] rfl)  hS (lv_sub hl [0, 1, 2, 3] rfl)
          · refine lv_iconst (v := 1) hx hb dX10_those_44 (by decide) ?_
            refine lv_goto (tgt := 49) hx hb dX10_those_45 (by decide) ?_
            refine lv_iadd hx hb dX10_those_49 ?_
            refine lv_topi (fun x_16 ex_16 => ?_)
            refine lv_istore_n (lv' := [(2, .int x_16), (3, .int (nI j1)), (0, .ref (a 10)), (1, .int n1)]) hx hb dX10_those_50 rfl hl (by decide) rfl (fun ls hl => ?_)
            refine lv_iinc (v := nI (j1 + 1)) (lv' := [(3, .int (nI (j1 + 1))), (2, .int x_16), (0, .ref (a 10)), (1, .int n1)]) hx hb dX10_those_51 hl (k := 1) rfl (nI_1 j1) (by decide) rfl (fun ls hl => ?_)
            refine lv_goto (tgt := 4) hx hb dX10_those_54 (by decide) ?_
            exact ih4 (j1 + 1) x_16 H locs ls (by omega) (by omega)  (hP.sub [0, 1, 2] rfl)  hS (lv_sub hl [0, 1, 2, 3] rfl)
        · refine lv_iconst (v := 1) hx hb dX10_those_26 (by decide) ?_
          refine lv_goto (tgt := 31) hx hb dX10_those_27 (by decide) ?_
          refine lv_iadd hx hb dX10_those_31 ?_
          refine lv_topi (fun x_17 ex_17 => ?_)
          refine lv_istore_n (lv' := [(2, .int x_17), (3, .int (nI j1)), (0, .ref (a 10)), (1, .int n1)]) hx hb dX10_those_32 rfl hl (by decide) rfl (fun ls hl => ?_)
          refine lv_iload_n hx hb dX10_those_33 rfl (lv_at hl 0 rfl) ?_
          refine lv_aload_n hx hb dX10_those_34 rfl (lv_at hl 2 rfl) ?_
          refine lv_iload_n hx hb dX10_those_35 rfl (lv_at hl 1 rfl) ?_
          refine lv_iconst (v := 1) hx hb dX10_those_36 (by decide) ?_
          refine eRi (va_runV (As := [.int (nI j1), .int 1]) (rest := [.int x_17]) ⟨hx, hb, hml, hown, hts⟩ (c_X10_at l D cI cB cZ cJ tx a sn sk scu sch ot j1 1 (lf_X10_those_18 a sn sk scu sch ot n1 hsn hsk j1 w1 k4 hj4 hk4 c_1 n_4 r_8 c_9 x_17 ex_17) (lf_X10_those_19 a sn sk scu sch ot n1 hsn hsk j1 w1 k4 hj4 hk4 c_1 n_4 r_8 c_9 x_17 ex_17) H.size) (zV hts k_1129 v_X10_at ⟨Nat.le_of_ble_eq_true rfl, Nat.le_of_ble_eq_true rfl⟩) (pV (pxS hK hP hD [0, 1, 2] (by decide) rfl) hK hP 0 rfl rfl) rfl rfl hl.1 rfl (lv_room (Nat.le_of_ble_eq_true rfl)) dX10_those_37 ⟨Nat.le_of_ble_eq_true rfl, Nat.le_of_ble_eq_true rfl⟩) hP hS hA (fun r_20 H locs wr_20 hP hS => ?_)
          refine lv_iload_n hx hb dX10_those_40 rfl (lv_at hl 3 rfl) ?_
          refine lv_icmp_lt (tgt := 48) hx hb dX10_those_41 (by decide) (fun c_21 => ?_) (fun c_21 => ?_)
          · refine lv_iconst (v := 0) hx hb dX10_those_48 (by decide) ?_
            refine lv_iadd hx hb dX10_those_49 ?_
            refine lv_topi (fun x_22 ex_22 => ?_)
            refine lv_istore_n (lv' := [(2, .int x_22), (3, .int (nI j1)), (0, .ref (a 10)), (1, .int n1)]) hx hb dX10_those_50 rfl hl (by decide) rfl (fun ls hl => ?_)
            refine lv_iinc (v := nI (j1 + 1)) (lv' := [(3, .int (nI (j1 + 1))), (2, .int x_22), (0, .ref (a 10)), (1, .int n1)]) hx hb dX10_those_51 hl (k := 1) rfl (nI_1 j1) (by decide) rfl (fun ls hl => ?_)
            refine lv_goto (tgt := 4) hx hb dX10_those_54 (by decide) ?_
            exact ih4 (j1 + 1) x_22 H locs ls (by omega) (by omega)  (hP.sub [0, 1, 2] rfl)  hS (lv_sub hl [0, 1, 2, 3] rfl)
          · refine lv_iconst (v := 1) hx hb dX10_those_44 (by decide) ?_
            refine lv_goto (tgt := 49) hx hb dX10_those_45 (by decide) ?_
            refine lv_iadd hx hb dX10_those_49 ?_
            refine lv_topi (fun x_23 ex_23 => ?_)
            refine lv_istore_n (lv' := [(2, .int x_23), (3, .int (nI j1)), (0, .ref (a 10)), (1, .int n1)]) hx hb dX10_those_50 rfl hl (by decide) rfl (fun ls hl => ?_)
            refine lv_iinc (v := nI (j1 + 1)) (lv' := [(3, .int (nI (j1 + 1))), (2, .int x_23), (0, .ref (a 10)), (1, .int n1)]) hx hb dX10_those_51 hl (k := 1) rfl (nI_1 j1) (by decide) rfl (fun ls hl => ?_)
            refine lv_goto (tgt := 4) hx hb dX10_those_54 (by decide) ?_
            exact ih4 (j1 + 1) x_23 H locs ls (by omega) (by omega)  (hP.sub [0, 1, 2] rfl)  hS (lv_sub hl [0, 1, 2, 3] rfl)
  exact lp4 (sn + 1) 0 0 H locs ls (by omega) (by omega)  (hP.sub [0, 1, 2] rfl)  hS (lv_sub hl [0, 1, 2, 3] rfl)

theorem lf_X10_pairsSeen_1 (a : Nat → Nat) (sn : Nat) (sk : Nat) (scu : Int32) (sch : Int32) (ot : Nat → Int32) (hsn : sn ≤ 24) (hsk : sk ≤ 8) : sn ≤ 24 := by
  first | assumption | omega | decide
theorem lf_X10_pairsSeen_2 (a : Nat → Nat) (sn : Nat) (sk : Nat) (scu : Int32) (sch : Int32) (ot : Nat → Int32) (hsn : sn ≤ 24) (hsk : sk ≤ 8) : sk ≤ 8 := by
  first | assumption | omega | decide
set_option maxHeartbeats 4000000 in
set_option maxRecDepth 100000 in
theorem c_X10_pairsSeen (l : Launch) (D : va_G) (cI cB cZ cJ : ClassId) (tx : List (ClassId × FieldType)) (a : Nat → Nat) (sn : Nat) (sk : Nat) (scu : Int32) (sch : Int32) (ot : Nat → Int32) (hsn : sn ≤ 24) (hsk : sk ≤ 8) : RdI l D cI cB cZ cJ tx yX10_pairsSeen cX10_pairsSeen 1 (some .int) 3 [.ref (a 10)] [(a 10, .inr (10, [.ref (a 5), .ref (a 46)])), (a 5, .inr (4, [.ref (a 18), .ref (a 19), .ref (a 20), .ref (a 21), .ref (a 22), .ref (a 23), .ref (a 24), .int (nI sn), .int (nI sk), .int scu, .int sch])), (a 46, .inl (cI, 48, .inl ot))] (fun r => True) := by
  refine rdi_of2 (by decide) (Nat.le_of_ble_eq_true rfl) ?_
  intro p e s m below meth c A ls H locs hC hK hP hD hA hS hl
  obtain ⟨hx, hb, hr, hml, hown, hts, hlocks, hin⟩ := hC
  have hown : s.vm.findClass RX10 = some m.cls := hown
  have hl : lv_has ls 1 [(0, .ref (a 10))] := hl
  refine lv_aload_n hx hb dX10_pairsSeen_0 rfl (lv_at hl 0 rfl) ?_
  refine lv_iconst (v := 0) hx hb dX10_pairsSeen_1 (by decide) ?_
  refine lv_iconst (v := (-1)) hx hb dX10_pairsSeen_2 (by decide) ?_
  refine eRi (va_runV (As := [.int 0, .int (-1)]) (rest := []) ⟨hx, hb, hml, hown, hts⟩ (c_X10_pairsWithout l D cI cB cZ cJ tx a sn sk scu sch ot 0 (-1) (lf_X10_pairsSeen_1 a sn sk scu sch ot hsn hsk) (lf_X10_pairsSeen_2 a sn sk scu sch ot hsn hsk) H.size) (zV hts k_1125 v_X10_pairsWithout ⟨Nat.le_of_ble_eq_true rfl, Nat.le_of_ble_eq_true rfl⟩) (pV (pxS hK hP hD [0, 1, 2] (by decide) rfl) hK hP 0 rfl rfl) rfl rfl hl.1 rfl (lv_room (Nat.le_of_ble_eq_true rfl)) dX10_pairsSeen_3 ⟨Nat.le_of_ble_eq_true rfl, Nat.le_of_ble_eq_true rfl⟩) hP hS hA (fun r_3 H locs wr_3 hP hS => ?_)
  exact W.iret (v := r_3) hx hb hr (fun tt9 ht hW => ⟨⟨(r_3 : Int32), (), rfl, trivial, trivial⟩, hS.F ht⟩) hS.2.2 dX10_pairsSeen_6 hlocks

theorem lf_X10_pairsThatMayBe_1 (a : Nat → Nat) (sn : Nat) (sk : Nat) (scu : Int32) (sch : Int32) (ot : Nat → Int32) (hsn : sn ≤ 24) (hsk : sk ≤ 8) : sn ≤ 24 := by
  first | assumption | omega | decide
theorem lf_X10_pairsThatMayBe_2 (a : Nat → Nat) (sn : Nat) (sk : Nat) (scu : Int32) (sch : Int32) (ot : Nat → Int32) (hsn : sn ≤ 24) (hsk : sk ≤ 8) : sk ≤ 8 := by
  first | assumption | omega | decide
set_option maxHeartbeats 4000000 in
set_option maxRecDepth 100000 in
theorem c_X10_pairsThatMayBe (l : Launch) (D : va_G) (cI cB cZ cJ : ClassId) (tx : List (ClassId × FieldType)) (a : Nat → Nat) (sn : Nat) (sk : Nat) (scu : Int32) (sch : Int32) (ot : Nat → Int32) (hsn : sn ≤ 24) (hsk : sk ≤ 8) : RdI l D cI cB cZ cJ tx yX10_pairsThatMayBe cX10_pairsThatMayBe 1 (some .int) 3 [.ref (a 10)] [(a 10, .inr (10, [.ref (a 5), .ref (a 46)])), (a 5, .inr (4, [.ref (a 18), .ref (a 19), .ref (a 20), .ref (a 21), .ref (a 22), .ref (a 23), .ref (a 24), .int (nI sn), .int (nI sk), .int scu, .int sch])), (a 46, .inl (cI, 48, .inl ot))] (fun r => True) := by
  refine rdi_of2 (by decide) (Nat.le_of_ble_eq_true rfl) ?_
  intro p e s m below meth c A ls H locs hC hK hP hD hA hS hl
  obtain ⟨hx, hb, hr, hml, hown, hts, hlocks, hin⟩ := hC
  have hown : s.vm.findClass RX10 = some m.cls := hown
  have hl : lv_has ls 1 [(0, .ref (a 10))] := hl
  refine lv_aload_n hx hb dX10_pairsThatMayBe_0 rfl (lv_at hl 0 rfl) ?_
  refine lv_iconst (v := 0) hx hb dX10_pairsThatMayBe_1 (by decide) ?_
  refine lv_iconst (v := 0) hx hb dX10_pairsThatMayBe_2 (by decide) ?_
  refine eRi (va_runV (As := [.int 0, .int 0]) (rest := []) ⟨hx, hb, hml, hown, hts⟩ (c_X10_pairsWithout l D cI cB cZ cJ tx a sn sk scu sch ot 0 0 (lf_X10_pairsThatMayBe_1 a sn sk scu sch ot hsn hsk) (lf_X10_pairsThatMayBe_2 a sn sk scu sch ot hsn hsk) H.size) (zV hts k_1125 v_X10_pairsWithout ⟨Nat.le_of_ble_eq_true rfl, Nat.le_of_ble_eq_true rfl⟩) (pV (pxS hK hP hD [0, 1, 2] (by decide) rfl) hK hP 0 rfl rfl) rfl rfl hl.1 rfl (lv_room (Nat.le_of_ble_eq_true rfl)) dX10_pairsThatMayBe_3 ⟨Nat.le_of_ble_eq_true rfl, Nat.le_of_ble_eq_true rfl⟩) hP hS hA (fun r_3 H locs wr_3 hP hS => ?_)
  exact W.iret (v := r_3) hx hb hr (fun tt9 ht hW => ⟨⟨(r_3 : Int32), (), rfl, trivial, trivial⟩, hS.F ht⟩) hS.2.2 dX10_pairsThatMayBe_6 hlocks

theorem lf_X10_known_1 (a : Nat → Nat) (sn : Nat) (sk : Nat) (scu : Int32) (sch : Int32) (ot : Nat → Int32) (hsn : sn ≤ 24) (hsk : sk ≤ 8) : sn ≤ 24 := by
  first | assumption | omega | decide
theorem lf_X10_known_2 (a : Nat → Nat) (sn : Nat) (sk : Nat) (scu : Int32) (sch : Int32) (ot : Nat → Int32) (hsn : sn ≤ 24) (hsk : sk ≤ 8) : sk ≤ 8 := by
  first | assumption | omega | decide
set_option maxHeartbeats 4000000 in
set_option maxRecDepth 100000 in
theorem c_X10_known (l : Launch) (D : va_G) (cI cB cZ cJ : ClassId) (tx : List (ClassId × FieldType)) (a : Nat → Nat) (sn : Nat) (sk : Nat) (scu : Int32) (sch : Int32) (ot : Nat → Int32) (hsn : sn ≤ 24) (hsk : sk ≤ 8) : RdI l D cI cB cZ cJ tx yX10_known cX10_known 1 (some .int) 3 [.ref (a 10)] [(a 10, .inr (10, [.ref (a 5), .ref (a 46)])), (a 5, .inr (4, [.ref (a 18), .ref (a 19), .ref (a 20), .ref (a 21), .ref (a 22), .ref (a 23), .ref (a 24), .int (nI sn), .int (nI sk), .int scu, .int sch])), (a 46, .inl (cI, 48, .inl ot))] (fun r => True) := by
  refine rdi_of2 (by decide) (Nat.le_of_ble_eq_true rfl) ?_
  intro p e s m below meth c A ls H locs hC hK hP hD hA hS hl
  obtain ⟨hx, hb, hr, hml, hown, hts, hlocks, hin⟩ := hC
  have hown : s.vm.findClass RX10 = some m.cls := hown
  have hl : lv_has ls 1 [(0, .ref (a 10))] := hl
  refine lv_aload_n hx hb dX10_known_0 rfl (lv_at hl 0 rfl) ?_
  refine lv_iconst (v := 0) hx hb dX10_known_1 (by decide) ?_
  refine eRi (va_runV (As := [.int 0]) (rest := []) ⟨hx, hb, hml, hown, hts⟩ (c_X10_those l D cI cB cZ cJ tx a sn sk scu sch ot 0 (lf_X10_known_1 a sn sk scu sch ot hsn hsk) (lf_X10_known_2 a sn sk scu sch ot hsn hsk) H.size) (zV hts k_1142 v_X10_those ⟨Nat.le_of_ble_eq_true rfl, Nat.le_of_ble_eq_true rfl⟩) (pV (pxS hK hP hD [0, 1, 2] (by decide) rfl) hK hP 0 rfl rfl) rfl rfl hl.1 rfl (lv_room (Nat.le_of_ble_eq_true rfl)) dX10_known_2 ⟨Nat.le_of_ble_eq_true rfl, Nat.le_of_ble_eq_true rfl⟩) hP hS hA (fun r_3 H locs wr_3 hP hS => ?_)
  exact W.iret (v := r_3) hx hb hr (fun tt9 ht hW => ⟨⟨(r_3 : Int32), (), rfl, trivial, trivial⟩, hS.F ht⟩) hS.2.2 dX10_known_5 hlocks

theorem lf_X10_seen_1 (a : Nat → Nat) (sn : Nat) (sk : Nat) (scu : Int32) (sch : Int32) (ot : Nat → Int32) (hsn : sn ≤ 24) (hsk : sk ≤ 8) : sn ≤ 24 := by
  first | assumption | omega | decide
theorem lf_X10_seen_2 (a : Nat → Nat) (sn : Nat) (sk : Nat) (scu : Int32) (sch : Int32) (ot : Nat → Int32) (hsn : sn ≤ 24) (hsk : sk ≤ 8) : sk ≤ 8 := by
  first | assumption | omega | decide
set_option maxHeartbeats 4000000 in
set_option maxRecDepth 100000 in
theorem c_X10_seen (l : Launch) (D : va_G) (cI cB cZ cJ : ClassId) (tx : List (ClassId × FieldType)) (a : Nat → Nat) (sn : Nat) (sk : Nat) (scu : Int32) (sch : Int32) (ot : Nat → Int32) (hsn : sn ≤ 24) (hsk : sk ≤ 8) : RdI l D cI cB cZ cJ tx yX10_seen cX10_seen 1 (some .int) 3 [.ref (a 10)] [(a 10, .inr (10, [.ref (a 5), .ref (a 46)])), (a 5, .inr (4, [.ref (a 18), .ref (a 19), .ref (a 20), .ref (a 21), .ref (a 22), .ref (a 23), .ref (a 24), .int (nI sn), .int (nI sk), .int scu, .int sch])), (a 46, .inl (cI, 48, .inl ot))] (fun r => True) := by
  refine rdi_of2 (by decide) (Nat.le_of_ble_eq_true rfl) ?_
  intro p e s m below meth c A ls H locs hC hK hP hD hA hS hl
  obtain ⟨hx, hb, hr, hml, hown, hts, hlocks, hin⟩ := hC
  have hown : s.vm.findClass RX10 = some m.cls := hown
  have hl : lv_has ls 1 [(0, .ref (a 10))] := hl
  refine lv_aload_n hx hb dX10_seen_0 rfl (lv_at hl 0 rfl) ?_
  refine lv_iconst (v := 1) hx hb dX10_seen_1 (by decide) ?_
  refine eRi (va_runV (As := [.int 1]) (rest := []) ⟨hx, hb, hml, hown, hts⟩ (c_X10_those l D cI cB cZ cJ tx a sn sk scu sch ot 1 (lf_X10_seen_1 a sn sk scu sch ot hsn hsk) (lf_X10_seen_2 a sn sk scu sch ot hsn hsk) H.size) (zV hts k_1142 v_X10_those ⟨Nat.le_of_ble_eq_true rfl, Nat.le_of_ble_eq_true rfl⟩) (pV (pxS hK hP hD [0, 1, 2] (by decide) rfl) hK hP 0 rfl rfl) rfl rfl hl.1 rfl (lv_room (Nat.le_of_ble_eq_true rfl)) dX10_seen_2 ⟨Nat.le_of_ble_eq_true rfl, Nat.le_of_ble_eq_true rfl⟩) hP hS hA (fun r_3 H locs wr_3 hP hS => ?_)
  exact W.iret (v := r_3) hx hb hr (fun tt9 ht hW => ⟨⟨(r_3 : Int32), (), rfl, trivial, trivial⟩, hS.F ht⟩) hS.2.2 dX10_seen_5 hlocks

theorem lf_X10_above_1 (a : Nat → Nat) (sn : Nat) (sk : Nat) (scu : Int32) (sch : Int32) (ot : Nat → Int32) (x1 : Nat) (x2 : Nat) (hsn : sn ≤ 24) (hsk : sk ≤ 8) (hx1 : x1 < 24) (hx2 : x2 < 2) : x1 < 24 := by
  first | assumption | omega | decide
theorem lf_X10_above_2 (a : Nat → Nat) (sn : Nat) (sk : Nat) (scu : Int32) (sch : Int32) (ot : Nat → Int32) (x1 : Nat) (x2 : Nat) (hsn : sn ≤ 24) (hsk : sk ≤ 8) (hx1 : x1 < 24) (hx2 : x2 < 2) : x2 < 2 := by
  first | assumption | omega | decide
theorem lf_X10_above_5 (a : Nat → Nat) (sn : Nat) (sk : Nat) (scu : Int32) (sch : Int32) (ot : Nat → Int32) (x1 : Nat) (x2 : Nat) (hsn : sn ≤ 24) (hsk : sk ≤ 8) (hx1 : x1 < 24) (hx2 : x2 < 2) (r_3 : Int32) (c_4 : r_3 = (-1)) : sn ≤ 24 := by
  first | assumption | omega | decide
theorem lf_X10_above_6 (a : Nat → Nat) (sn : Nat) (sk : Nat) (scu : Int32) (sch : Int32) (ot : Nat → Int32) (x1 : Nat) (x2 : Nat) (hsn : sn ≤ 24) (hsk : sk ≤ 8) (hx1 : x1 < 24) (hx2 : x2 < 2) (r_3 : Int32) (c_4 : r_3 = (-1)) : sk ≤ 8 := by
  first | assumption | omega | decide
set_option maxHeartbeats 4000000 in
set_option maxRecDepth 100000 in
theorem c_X10_above (l : Launch) (D : va_G) (cI cB cZ cJ : ClassId) (tx : List (ClassId × FieldType)) (a : Nat → Nat) (sn : Nat) (sk : Nat) (scu : Int32) (sch : Int32) (ot : Nat → Int32) (x1 : Nat) (x2 : Nat) (hsn : sn ≤ 24) (hsk : sk ≤ 8) (hx1 : x1 < 24) (hx2 : x2 < 2) : RdI l D cI cB cZ cJ tx yX10_above cX10_above 4 (some .int) 4 [.ref (a 10), .int (nI x1), .int (nI x2)] [(a 10, .inr (10, [.ref (a 5), .ref (a 46)])), (a 5, .inr (4, [.ref (a 18), .ref (a 19), .ref (a 20), .ref (a 21), .ref (a 22), .ref (a 23), .ref (a 24), .int (nI sn), .int (nI sk), .int scu, .int sch])), (a 46, .inl (cI, 48, .inl ot))] (fun r => True) := by
  refine rdi_of2 (by decide) (Nat.le_of_ble_eq_true rfl) ?_
  intro p e s m below meth c A ls H locs hC hK hP hD hA hS hl
  obtain ⟨hx, hb, hr, hml, hown, hts, hlocks, hin⟩ := hC
  have hown : s.vm.findClass RX10 = some m.cls := hown
  have hl : lv_has ls 4 [(0, .ref (a 10)), (1, .int (nI x1)), (2, .int (nI x2))] := hl
  refine lv_aload_n hx hb dX10_above_0 rfl (lv_at hl 0 rfl) ?_
  refine lv_iload_n hx hb dX10_above_1 rfl (lv_at hl 1 rfl) ?_
  refine lv_iload_n hx hb dX10_above_2 rfl (lv_at hl 2 rfl) ?_
  refine eRi (va_runV (As := [.int (nI x1), .int (nI x2)]) (rest := []) ⟨hx, hb, hml, hown, hts⟩ (c_X10_at l D cI cB cZ cJ tx a sn sk scu sch ot x1 x2 (lf_X10_above_1 a sn sk scu sch ot x1 x2 hsn hsk hx1 hx2) (lf_X10_above_2 a sn sk scu sch ot x1 x2 hsn hsk hx1 hx2) H.size) (zV hts k_1129 v_X10_at ⟨Nat.le_of_ble_eq_true rfl, Nat.le_of_ble_eq_true rfl⟩) (pV (pxS hK hP hD [0, 1, 2] (by decide) rfl) hK hP 0 rfl rfl) rfl rfl hl.1 rfl (lv_room (Nat.le_of_ble_eq_true rfl)) dX10_above_3 ⟨Nat.le_of_ble_eq_true rfl, Nat.le_of_ble_eq_true rfl⟩) hP hS hA (fun r_3 H locs wr_3 hP hS => ?_)
  refine lv_istore_n (lv' := [(3, .int r_3), (0, .ref (a 10)), (1, .int (nI x1)), (2, .int (nI x2))]) hx hb dX10_above_6 rfl hl (by decide) rfl (fun ls hl => ?_)
  refine lv_iload_n hx hb dX10_above_7 rfl (lv_at hl 0 rfl) ?_
  refine lv_iconst (v := (-1)) hx hb dX10_above_8 (by decide) ?_
  refine lv_icmp_ne (tgt := 19) hx hb dX10_above_9 (by decide) (fun c_4 => ?_) (fun c_4 => ?_)
  · refine lv_iload_n hx hb dX10_above_19 rfl (lv_at hl 0 rfl) ?_
    exact W.iret (v := r_3) hx hb hr (fun tt9 ht hW => ⟨⟨(r_3 : Int32), (), rfl, trivial, trivial⟩, hS.F ht⟩) hS.2.2 dX10_above_20 hlocks
  · refine lv_aload_n hx hb dX10_above_12 rfl (lv_at hl 1 rfl) ?_
    refine eRi (va_runV (As := []) (rest := []) ⟨hx, hb, hml, hown, hts⟩ (c_X10_seen l D cI cB cZ cJ tx a sn sk scu sch ot (lf_X10_above_5 a sn sk scu sch ot x1 x2 hsn hsk hx1 hx2 r_3 c_4) (lf_X10_above_6 a sn sk scu sch ot x1 x2 hsn hsk hx1 hx2 r_3 c_4) H.size) (zV hts k_1159 v_X10_seen ⟨Nat.le_of_ble_eq_true rfl, Nat.le_of_ble_eq_true rfl⟩) (pV (pxS hK hP hD [0, 1, 2] (by decide) rfl) hK hP 0 rfl rfl) rfl rfl hl.1 rfl (lv_room (Nat.le_of_ble_eq_true rfl)) dX10_above_13 ⟨Nat.le_of_ble_eq_true rfl, Nat.le_of_ble_eq_true rfl⟩) hP hS hA (fun r_7 H locs wr_7 hP hS => ?_)
    refine lv_goto (tgt := 20) hx hb dX10_above_16 (by decide) ?_
    exact W.iret (v := r_7) hx hb hr (fun tt9 ht hW => ⟨⟨(r_7 : Int32), (), rfl, trivial, trivial⟩, hS.F ht⟩) hS.2.2 dX10_above_20 hlocks

theorem lf_X10_below_1 (a : Nat → Nat) (sn : Nat) (sk : Nat) (scu : Int32) (sch : Int32) (ot : Nat → Int32) (x1 : Nat) (x2 : Nat) (hsn : sn ≤ 24) (hsk : sk ≤ 8) (hx1 : x1 < 24) (hx2 : x2 < 2) : x1 < 24 := by
  first | assumption | omega | decide
theorem lf_X10_below_2 (a : Nat → Nat) (sn : Nat) (sk : Nat) (scu : Int32) (sch : Int32) (ot : Nat → Int32) (x1 : Nat) (x2 : Nat) (hsn : sn ≤ 24) (hsk : sk ≤ 8) (hx1 : x1 < 24) (hx2 : x2 < 2) : x2 < 2 := by
  first | assumption | omega | decide
theorem lf_X10_below_5 (a : Nat → Nat) (sn : Nat) (sk : Nat) (scu : Int32) (sch : Int32) (ot : Nat → Int32) (x1 : Nat) (x2 : Nat) (hsn : sn ≤ 24) (hsk : sk ≤ 8) (hx1 : x1 < 24) (hx2 : x2 < 2) (r_3 : Int32) (c_4 : r_3 = (-1)) : sn ≤ 24 := by
  first | assumption | omega | decide
theorem lf_X10_below_6 (a : Nat → Nat) (sn : Nat) (sk : Nat) (scu : Int32) (sch : Int32) (ot : Nat → Int32) (x1 : Nat) (x2 : Nat) (hsn : sn ≤ 24) (hsk : sk ≤ 8) (hx1 : x1 < 24) (hx2 : x2 < 2) (r_3 : Int32) (c_4 : r_3 = (-1)) : sk ≤ 8 := by
  first | assumption | omega | decide
set_option maxHeartbeats 4000000 in
set_option maxRecDepth 100000 in
theorem c_X10_below (l : Launch) (D : va_G) (cI cB cZ cJ : ClassId) (tx : List (ClassId × FieldType)) (a : Nat → Nat) (sn : Nat) (sk : Nat) (scu : Int32) (sch : Int32) (ot : Nat → Int32) (x1 : Nat) (x2 : Nat) (hsn : sn ≤ 24) (hsk : sk ≤ 8) (hx1 : x1 < 24) (hx2 : x2 < 2) : RdI l D cI cB cZ cJ tx yX10_below cX10_below 3 (some .int) 4 [.ref (a 10), .int (nI x1), .int (nI x2)] [(a 10, .inr (10, [.ref (a 5), .ref (a 46)])), (a 5, .inr (4, [.ref (a 18), .ref (a 19), .ref (a 20), .ref (a 21), .ref (a 22), .ref (a 23), .ref (a 24), .int (nI sn), .int (nI sk), .int scu, .int sch])), (a 46, .inl (cI, 48, .inl ot))] (fun r => True) := by
  refine rdi_of2 (by decide) (Nat.le_of_ble_eq_true rfl) ?_
  intro p e s m below meth c A ls H locs hC hK hP hD hA hS hl
  obtain ⟨hx, hb, hr, hml, hown, hts, hlocks, hin⟩ := hC
  have hown : s.vm.findClass RX10 = some m.cls := hown
  have hl : lv_has ls 3 [(0, .ref (a 10)), (1, .int (nI x1)), (2, .int (nI x2))] := hl
  refine lv_aload_n hx hb dX10_below_0 rfl (lv_at hl 0 rfl) ?_
  refine lv_iload_n hx hb dX10_below_1 rfl (lv_at hl 1 rfl) ?_
  refine lv_iload_n hx hb dX10_below_2 rfl (lv_at hl 2 rfl) ?_
  refine eRi (va_runV (As := [.int (nI x1), .int (nI x2)]) (rest := []) ⟨hx, hb, hml, hown, hts⟩ (c_X10_at l D cI cB cZ cJ tx a sn sk scu sch ot x1 x2 (lf_X10_below_1 a sn sk scu sch ot x1 x2 hsn hsk hx1 hx2) (lf_X10_below_2 a sn sk scu sch ot x1 x2 hsn hsk hx1 hx2) H.size) (zV hts k_1129 v_X10_at ⟨Nat.le_of_ble_eq_true rfl, Nat.le_of_ble_eq_true rfl⟩) (pV (pxS hK hP hD [0, 1, 2] (by decide) rfl) hK hP 0 rfl rfl) rfl rfl hl.1 rfl (lv_room (Nat.le_of_ble_eq_true rfl)) dX10_below_3 ⟨Nat.le_of_ble_eq_true rfl, Nat.le_of_ble_eq_true rfl⟩) hP hS hA (fun r_3 H locs wr_3 hP hS => ?_)
  refine lv_iconst (v := (-1)) hx hb dX10_below_6 (by decide) ?_
  refine lv_icmp_ne (tgt := 17) hx hb dX10_below_7 (by decide) (fun c_4 => ?_) (fun c_4 => ?_)
  · refine lv_iconst (v := 1) hx hb dX10_below_17 (by decide) ?_
    exact W.iret (v := 1) hx hb hr (fun tt9 ht hW => ⟨⟨(1 : Int32), (), rfl, trivial, trivial⟩, hS.F ht⟩) hS.2.2 dX10_below_18 hlocks
  · refine lv_aload_n hx hb dX10_below_10 rfl (lv_at hl 0 rfl) ?_
    refine eRi (va_runV (As := []) (rest := []) ⟨hx, hb, hml, hown, hts⟩ (c_X10_known l D cI cB cZ cJ tx a sn sk scu sch ot (lf_X10_below_5 a sn sk scu sch ot x1 x2 hsn hsk hx1 hx2 r_3 c_4) (lf_X10_below_6 a sn sk scu sch ot x1 x2 hsn hsk hx1 hx2 r_3 c_4) H.size) (zV hts k_1164 v_X10_known ⟨Nat.le_of_ble_eq_true rfl, Nat.le_of_ble_eq_true rfl⟩) (pV (pxS hK hP hD [0, 1, 2] (by decide) rfl) hK hP 0 rfl rfl) rfl rfl hl.1 rfl (lv_room (Nat.le_of_ble_eq_true rfl)) dX10_below_11 ⟨Nat.le_of_ble_eq_true rfl, Nat.le_of_ble_eq_true rfl⟩) hP hS hA (fun r_7 H locs wr_7 hP hS => ?_)
    refine lv_goto (tgt := 18) hx hb dX10_below_14 (by decide) ?_
    exact W.iret (v := r_7) hx hb hr (fun tt9 ht hW => ⟨⟨(r_7 : Int32), (), rfl, trivial, trivial⟩, hS.F ht⟩) hS.2.2 dX10_below_18 hlocks

theorem lf_X6_put_2 (a : Nat → Nat) (bc : Int32) (br : Int32) (bm : Int32) (ba : Int32) (bp : Int32) (pc_ : Nat → Int32) (x1 : Nat) (x2 : Nat) (n3 : Int32) (hx1 : x1 ≤ 11) (hx2 : x2 ≤ 5) : vp_in (nI ((x2 * 12) + x1)) 72 := by
  first | exact vp_in_nI (by omega) (by decide) | (unfold vp_in; decide)
set_option maxHeartbeats 4000000 in
set_option maxRecDepth 100000 in
theorem c_X6_put (l : Launch) (D : va_G) (cI cB cZ cJ : ClassId) (tx : List (ClassId × FieldType)) (a : Nat → Nat) (bc : Int32) (br : Int32) (bm : Int32) (ba : Int32) (bp : Int32) (pc_ : Nat → Int32) (x1 : Nat) (x2 : Nat) (n3 : Int32) (hx1 : x1 ≤ 11) (hx2 : x2 ≤ 5) : WrV l D cI cB cZ cJ tx yX6_put cX6_put 4 none 0 0 0 [.ref (a 11), .int (nI x1), .int (nI x2), .int n3] [(a 11, .inr (6, [.ref (a 47), .int bc, .int br, .int bm, .int ba, .int bp])), (a 47, .inl (cI, 72, .inl pc_))] (fun (v : (Nat → Int32)) => True) (fun v => [(a 11, .inr (6, [.ref (a 47), .int bc, .int br, .int bm, .int ba, .int bp])), (a 47, .inl (cI, 72, .inl v))]) := by
  refine wrv_of2 (by decide) (Nat.le_of_ble_eq_true rfl) ?_
  intro p e s m below meth c A ls H locs hC hK hP hD hA hS hl
  obtain ⟨hx, hb, hr, hml, hown, hts, hlocks, hin⟩ := hC
  have hown : s.vm.findClass RX6 = some m.cls := hown
  have hl : lv_has ls 4 [(0, .ref (a 11)), (1, .int (nI x1)), (2, .int (nI x2)), (3, .int n3)] := hl
  refine lv_aload_n hx hb dX6_put_0 rfl (lv_at hl 0 rfl) ?_
  refine va_get (D := D) (ci := 6) (v := .ref (a 47)) (C := RX6) (T := TX6) (N := 6) hx hb hts inT_X6 hown hK.1 hP 0 rfl rfl 0 (by decide) (hts _ k_441) (fun _ h9 => h9) rfl dX6_put_1 ?_
  refine lv_iload_n hx hb dX6_put_4 rfl (lv_at hl 2 rfl) ?_
  refine lv_bipush (v := 12) hx hb dX6_put_5 (by decide) ?_
  refine lv_imul hx hb dX6_put_7 ?_
  refine lv_topv (y := nI (x2 * 12)) (pk_mul x2 12) ?_
  refine lv_iload_n hx hb dX6_put_8 rfl (lv_at hl 1 rfl) ?_
  refine lv_iadd hx hb dX6_put_9 ?_
  refine lv_topv (y := nI ((x2 * 12) + x1)) (nI_add (x2 * 12) x1) ?_
  refine lv_iload_n hx hb dX6_put_10 rfl (lv_at hl 3 rfl) ?_
  refine st_i hx hb hK hP hD hS 1 rfl (lf_X6_put_2 a bc br bm ba bp pc_ x1 x2 n3 hx1 hx2) dX6_put_11 (fun f_1 H locs hP hD hS => ?_)
  have hP : va_P D vwCl [(a 11, .inr (6, [.ref (a 47), .int bc, .int br, .int bm, .int ba, .int bp])), (a 47, .inl (cI, 72, .inl f_1))] H := hP
  have hD : va_D A [(a 11, .inr (6, [.ref (a 47), .int bc, .int br, .int bm, .int ba, .int bp])), (a 47, .inl (cI, 72, .inl f_1))] := hD
  exact W.vret hx hb hr (fun tt9 ht hW => ⟨⟨((f_1 : Nat → Int32)), rfl, trivial, ⟨by rw [ht]; exact hP, hD⟩⟩, hS.F ht⟩) hS.2.2 dX6_put_12 hlocks

set_option maxHeartbeats 4000000 in
set_option maxRecDepth 100000 in
theorem c_X6_weigh (l : Launch) (D : va_G) (cI cB cZ cJ : ClassId) (tx : List (ClassId × FieldType)) (a : Nat → Nat) (bc : Int32) (br : Int32) (bm : Int32) (ba : Int32) (bp : Int32) (n1 : Int32) (n2 : Int32) (n3 : Int32) : WrV l D cI cB cZ cJ tx yX6_weigh cX6_weigh 4 none 0 0 0 [.ref (a 11), .int n1, .int n2, .int n3] [(a 11, .inr (6, [.ref (a 47), .int bc, .int br, .int bm, .int ba, .int bp]))] (fun (v : (Int32) × (Int32) × (Int32) × (Int32) × (Int32)) => True) (fun v => [(a 11, .inr (6, [.ref (a 47), .int v.1, .int v.2.1, .int v.2.2.1, .int v.2.2.2.1, .int v.2.2.2.2]))]) := by
  refine wrv_of2 (by decide) (Nat.le_of_ble_eq_true rfl) ?_
  intro p e s m below meth c A ls H locs hC hK hP hD hA hS hl
  obtain ⟨hx, hb, hr, hml, hown, hts, hlocks, hin⟩ := hC
  have hown : s.vm.findClass RX6 = some m.cls := hown
  have hl : lv_has ls 4 [(0, .ref (a 11)), (1, .int n1), (2, .int n2), (3, .int n3)] := hl
  refine lv_aload_n hx hb dX6_weigh_0 rfl (lv_at hl 0 rfl) ?_
  refine lv_dup hx hb dX6_weigh_1 rfl ?_
  refine va_get (D := D) (ci := 6) (v := .int bp) (C := RX6) (T := TX6) (N := 6) hx hb hts inT_X6 hown hK.1 hP 0 rfl rfl 5 (by decide) (hts _ k_450) (fun _ h9 => h9) rfl dX6_weigh_2 ?_
  refine lv_iconst (v := 1) hx hb dX6_weigh_5 (by decide) ?_
  refine lv_iadd hx hb dX6_weigh_6 ?_
  refine lv_topi (fun x_1 ex_1 => ?_)
  refine va_put (D := D) (ci := 6) (v := .int x_1) (ty := .int) (C := RX6) (T := TX6) (N := 6) hx hb hts inT_X6 tyX6 tyX6_ok nmX6 hown hK.1 hP hD hS 0 rfl rfl 5 (by decide) (hts _ k_450) (fun _ h9 => h9) rfl (by decide +kernel) rfl rfl (Nat.le_of_ble_eq_true rfl) dX6_weigh_7 (fun H locs hP hD hS => ?_)
  have hP : va_P D vwCl [(a 11, .inr (6, [.ref (a 47), .int bc, .int br, .int bm, .int ba, .int x_1]))] H := hP
  have hD : va_D A [(a 11, .inr (6, [.ref (a 47), .int bc, .int br, .int bm, .int ba, .int x_1]))] := hD
  refine lv_iload_n hx hb dX6_weigh_10 rfl (lv_at hl 3 rfl) ?_
  refine lv_aload_n hx hb dX6_weigh_11 rfl (lv_at hl 0 rfl) ?_
  refine va_get (D := D) (ci := 6) (v := .int bm) (C := RX6) (T := TX6) (N := 6) hx hb hts inT_X6 hown hK.1 hP 0 rfl rfl 3 (by decide) (hts _ k_446) (fun _ h9 => h9) rfl dX6_weigh_12 ?_
  refine lv_icmp_le (tgt := 38) hx hb dX6_weigh_15 (by decide) (fun c_2 => ?_) (fun c_2 => ?_)
  · refine lv_aload_n hx hb dX6_weigh_38 rfl (lv_at hl 0 rfl) ?_
    refine lv_dup hx hb dX6_weigh_39 rfl ?_
    refine va_get (D := D) (ci := 6) (v := .int ba) (C := RX6) (T := TX6) (N := 6) hx hb hts inT_X6 hown hK.1 hP 0 rfl rfl 4 (by decide) (hts _ k_448) (fun _ h9 => h9) rfl dX6_weigh_40 ?_
    refine lv_iload_n hx hb dX6_weigh_43 rfl (lv_at hl 3 rfl) ?_
    refine lv_aload_n hx hb dX6_weigh_44 rfl (lv_at hl 0 rfl) ?_
    refine va_get (D := D) (ci := 6) (v := .int bm) (C := RX6) (T := TX6) (N := 6) hx hb hts inT_X6 hown hK.1 hP 0 rfl rfl 3 (by decide) (hts _ k_446) (fun _ h9 => h9) rfl dX6_weigh_45 ?_
    refine lv_icmp_ne (tgt := 55) hx hb dX6_weigh_48 (by decide) (fun c_3 => ?_) (fun c_3 => ?_)
    · refine lv_iconst (v := 0) hx hb dX6_weigh_55 (by decide) ?_
      refine lv_iadd hx hb dX6_weigh_56 ?_
      refine lv_topi (fun x_4 ex_4 => ?_)
      refine va_put (D := D) (ci := 6) (v := .int x_4) (ty := .int) (C := RX6) (T := TX6) (N := 6) hx hb hts inT_X6 tyX6 tyX6_ok nmX6 hown hK.1 hP hD hS 0 rfl rfl 4 (by decide) (hts _ k_448) (fun _ h9 => h9) rfl (by decide +kernel) rfl rfl (Nat.le_of_ble_eq_true rfl) dX6_weigh_57 (fun H locs hP hD hS => ?_)
      have hP : va_P D vwCl [(a 11, .inr (6, [.ref (a 47), .int bc, .int br, .int bm, .int x_4, .int x_1]))] H := hP
      have hD : va_D A [(a 11, .inr (6, [.ref (a 47), .int bc, .int br, .int bm, .int x_4, .int x_1]))] := hD
      exact W.vret hx hb hr (fun tt9 ht hW => ⟨⟨((bc : Int32), (br : Int32), (bm : Int32), (x_4 : Int32), (x_1 : Int32)), rfl, trivial, ⟨by rw [ht]; exact hP, hD⟩⟩, hS.F ht⟩) hS.2.2 dX6_weigh_60 hlocks
    · refine lv_iconst (v := 1) hx hb dX6_weigh_51 (by decide) ?_
      refine lv_goto (tgt := 56) hx hb dX6_weigh_52 (by decide) ?_
      refine lv_iadd hx hb dX6_weigh_56 ?_
      refine lv_topi (fun x_5 ex_5 => ?_)
      refine va_put (D := D) (ci := 6) (v := .int x_5) (ty := .int) (C := RX6) (T := TX6) (N := 6) hx hb hts inT_X6 tyX6 tyX6_ok nmX6 hown hK.1 hP hD hS 0 rfl rfl 4 (by decide) (hts _ k_448) (fun _ h9 => h9) rfl (by decide +kernel) rfl rfl (Nat.le_of_ble_eq_true rfl) dX6_weigh_57 (fun H locs hP hD hS => ?_)
      have hP : va_P D vwCl [(a 11, .inr (6, [.ref (a 47), .int bc, .int br, .int bm, .int x_5, .int x_1]))] H := hP
      have hD : va_D A [(a 11, .inr (6, [.ref (a 47), .int bc, .int br, .int bm, .int x_5, .int x_1]))] := hD
      exact W.vret hx hb hr (fun tt9 ht hW => ⟨⟨((bc : Int32), (br : Int32), (bm : Int32), (x_5 : Int32), (x_1 : Int32)), rfl, trivial, ⟨by rw [ht]; exact hP, hD⟩⟩, hS.F ht⟩) hS.2.2 dX6_weigh_60 hlocks
  · refine lv_aload_n hx hb dX6_weigh_18 rfl (lv_at hl 0 rfl) ?_
    refine lv_iload_n hx hb dX6_weigh_19 rfl (lv_at hl 3 rfl) ?_
    refine va_put (D := D) (ci := 6) (v := .int n3) (ty := .int) (C := RX6) (T := TX6) (N := 6) hx hb hts inT_X6 tyX6 tyX6_ok nmX6 hown hK.1 hP hD hS 0 rfl rfl 3 (by decide) (hts _ k_446) (fun _ h9 => h9) rfl (by decide +kernel) rfl rfl (Nat.le_of_ble_eq_true rfl) dX6_weigh_20 (fun H locs hP hD hS => ?_)
    have hP : va_P D vwCl [(a 11, .inr (6, [.ref (a 47), .int bc, .int br, .int n3, .int ba, .int x_1]))] H := hP
    have hD : va_D A [(a 11, .inr (6, [.ref (a 47), .int bc, .int br, .int n3, .int ba, .int x_1]))] := hD
    refine lv_aload_n hx hb dX6_weigh_23 rfl (lv_at hl 0 rfl) ?_
    refine lv_iload_n hx hb dX6_weigh_24 rfl (lv_at hl 1 rfl) ?_
    refine va_put (D := D) (ci := 6) (v := .int n1) (ty := .int) (C := RX6) (T := TX6) (N := 6) hx hb hts inT_X6 tyX6 tyX6_ok nmX6 hown hK.1 hP hD hS 0 rfl rfl 1 (by decide) (hts _ k_442) (fun _ h9 => h9) rfl (by decide +kernel) rfl rfl (Nat.le_of_ble_eq_true rfl) dX6_weigh_25 (fun H locs hP hD hS => ?_)
    have hP : va_P D vwCl [(a 11, .inr (6, [.ref (a 47), .int n1, .int br, .int n3, .int ba, .int x_1]))] H := hP
    have hD : va_D A [(a 11, .inr (6, [.ref (a 47), .int n1, .int br, .int n3, .int ba, .int x_1]))] := hD
    refine lv_aload_n hx hb dX6_weigh_28 rfl (lv_at hl 0 rfl) ?_
    refine lv_iload_n hx hb dX6_weigh_29 rfl (lv_at hl 2 rfl) ?_
    refine va_put (D := D) (ci := 6) (v := .int n2) (ty := .int) (C := RX6) (T := TX6) (N := 6) hx hb hts inT_X6 tyX6 tyX6_ok nmX6 hown hK.1 hP hD hS 0 rfl rfl 2 (by decide) (hts _ k_444) (fun _ h9 => h9) rfl (by decide +kernel) rfl rfl (Nat.le_of_ble_eq_true rfl) dX6_weigh_30 (fun H locs hP hD hS => ?_)
    have hP : va_P D vwCl [(a 11, .inr (6, [.ref (a 47), .int n1, .int n2, .int n3, .int ba, .int x_1]))] H := hP
    have hD : va_D A [(a 11, .inr (6, [.ref (a 47), .int n1, .int n2, .int n3, .int ba, .int x_1]))] := hD
    refine lv_aload_n hx hb dX6_weigh_33 rfl (lv_at hl 0 rfl) ?_
    refine lv_iconst (v := 0) hx hb dX6_weigh_34 (by decide) ?_
    refine va_put (D := D) (ci := 6) (v := .int 0) (ty := .int) (C := RX6) (T := TX6) (N := 6) hx hb hts inT_X6 tyX6 tyX6_ok nmX6 hown hK.1 hP hD hS 0 rfl rfl 4 (by decide) (hts _ k_448) (fun _ h9 => h9) rfl (by decide +kernel) rfl rfl (Nat.le_of_ble_eq_true rfl) dX6_weigh_35 (fun H locs hP hD hS => ?_)
    have hP : va_P D vwCl [(a 11, .inr (6, [.ref (a 47), .int n1, .int n2, .int n3, .int 0, .int x_1]))] H := hP
    have hD : va_D A [(a 11, .inr (6, [.ref (a 47), .int n1, .int n2, .int n3, .int 0, .int x_1]))] := hD
    refine lv_aload_n hx hb dX6_weigh_38 rfl (lv_at hl 0 rfl) ?_
    refine lv_dup hx hb dX6_weigh_39 rfl ?_
    refine va_get (D := D) (ci := 6) (v := .int 0) (C := RX6) (T := TX6) (N := 6) hx hb hts inT_X6 hown hK.1 hP 0 rfl rfl 4 (by decide) (hts _ k_448) (fun _ h9 => h9) rfl dX6_weigh_40 ?_
    refine lv_iload_n hx hb dX6_weigh_43 rfl (lv_at hl 3 rfl) ?_
    refine lv_aload_n hx hb dX6_weigh_44 rfl (lv_at hl 0 rfl) ?_
    refine va_get (D := D) (ci := 6) (v := .int n3) (C := RX6) (T := TX6) (N := 6) hx hb hts inT_X6 hown hK.1 hP 0 rfl rfl 3 (by decide) (hts _ k_446) (fun _ h9 => h9) rfl dX6_weigh_45 ?_
    refine lv_icmp_ne (tgt := 55) hx hb dX6_weigh_48 (by decide) (fun c_6 => ?_) (fun c_6 => ?_)
    · refine lv_iconst (v := 0) hx hb dX6_weigh_55 (by decide) ?_
      refine lv_iadd hx hb dX6_weigh_56 ?_
      refine lv_topv (y := 0) (by decide) ?_
      refine va_put (D := D) (ci := 6) (v := .int 0) (ty := .int) (C := RX6) (T := TX6) (N := 6) hx hb hts inT_X6 tyX6 tyX6_ok nmX6 hown hK.1 hP hD hS 0 rfl rfl 4 (by decide) (hts _ k_448) (fun _ h9 => h9) rfl (by decide +kernel) rfl rfl (Nat.le_of_ble_eq_true rfl) dX6_weigh_57 (fun H locs hP hD hS => ?_)
      have hP : va_P D vwCl [(a 11, .inr (6, [.ref (a 47), .int n1, .int n2, .int n3, .int 0, .int x_1]))] H := hP
      have hD : va_D A [(a 11, .inr (6, [.ref (a 47), .int n1, .int n2, .int n3, .int 0, .int x_1]))] := hD
      exact W.vret hx hb hr (fun tt9 ht hW => ⟨⟨((n1 : Int32), (n2 : Int32), (n3 : Int32), (0 : Int32), (x_1 : Int32)), rfl, trivial, ⟨by rw [ht]; exact hP, hD⟩⟩, hS.F ht⟩) hS.2.2 dX6_weigh_60 hlocks
    · refine lv_iconst (v := 1) hx hb dX6_weigh_51 (by decide) ?_
      refine lv_goto (tgt := 56) hx hb dX6_weigh_52 (by decide) ?_
      refine lv_iadd hx hb dX6_weigh_56 ?_
      refine lv_topv (y := 1) (by decide) ?_
      refine va_put (D := D) (ci := 6) (v := .int 1) (ty := .int) (C := RX6) (T := TX6) (N := 6) hx hb hts inT_X6 tyX6 tyX6_ok nmX6 hown hK.1 hP hD hS 0 rfl rfl 4 (by decide) (hts _ k_448) (fun _ h9 => h9) rfl (by decide +kernel) rfl rfl (Nat.le_of_ble_eq_true rfl) dX6_weigh_57 (fun H locs hP hD hS => ?_)
      have hP : va_P D vwCl [(a 11, .inr (6, [.ref (a 47), .int n1, .int n2, .int n3, .int 1, .int x_1]))] H := hP
      have hD : va_D A [(a 11, .inr (6, [.ref (a 47), .int n1, .int n2, .int n3, .int 1, .int x_1]))] := hD
      exact W.vret hx hb hr (fun tt9 ht hW => ⟨⟨((n1 : Int32), (n2 : Int32), (n3 : Int32), (1 : Int32), (x_1 : Int32)), rfl, trivial, ⟨by rw [ht]; exact hP, hD⟩⟩, hS.F ht⟩) hS.2.2 dX6_weigh_60 hlocks

theorem lf_X6_amount_3 (a : Nat → Nat) (bc : Int32) (br : Int32) (bm : Int32) (ba : Int32) (bp : Int32) (pc_ : Nat → Int32) (c0 : Nat) (r0 : Nat) (w0 : Nat) (h0 : Nat) (hw : c0 + w0 ≤ 12) (hh : r0 + h0 ≤ 6) (j1 : Nat) (w1 : Int32) (k6 : Nat) (hj6 : j1 ≤ (r0 + h0)) (hk6 : (r0 + h0) < j1 + (k6 + 1)) (c_1 : nI (r0 + h0) ≤ nI j1) : (r0 + h0) ≤ j1 := by
  exact (nI_leI (a := (r0 + h0)) (b := j1) (by omega) (by omega)).mp c_1
theorem lf_X6_amount_5 (a : Nat → Nat) (bc : Int32) (br : Int32) (bm : Int32) (ba : Int32) (bp : Int32) (pc_ : Nat → Int32) (c0 : Nat) (r0 : Nat) (w0 : Nat) (h0 : Nat) (hw : c0 + w0 ≤ 12) (hh : r0 + h0 ≤ 6) (j1 : Nat) (w1 : Int32) (k6 : Nat) (hj6 : j1 ≤ (r0 + h0)) (hk6 : (r0 + h0) < j1 + (k6 + 1)) (c_1 : ¬ nI (r0 + h0) ≤ nI j1) : j1 < (r0 + h0) := by
  exact Nat.lt_of_not_le (fun q => c_1 ((nI_leI (a := (r0 + h0)) (b := j1) (by omega) (by omega)).mpr q))
theorem lf_X6_amount_8 (a : Nat → Nat) (bc : Int32) (br : Int32) (bm : Int32) (ba : Int32) (bp : Int32) (pc_ : Nat → Int32) (c0 : Nat) (r0 : Nat) (w0 : Nat) (h0 : Nat) (hw : c0 + w0 ≤ 12) (hh : r0 + h0 ≤ 6) (j1 : Nat) (w1 : Int32) (k6 : Nat) (hj6 : j1 ≤ (r0 + h0)) (hk6 : (r0 + h0) < j1 + (k6 + 1)) (c_1 : ¬ nI (r0 + h0) ≤ nI j1) (n_4 : j1 < (r0 + h0)) (j2 : Nat) (w2 : Int32) (k18 : Nat) (hj18 : j2 ≤ (c0 + w0)) (hk18 : (c0 + w0) < j2 + (k18 + 1)) (c_6 : nI (c0 + w0) ≤ nI j2) : (c0 + w0) ≤ j2 := by
  exact (nI_leI (a := (c0 + w0)) (b := j2) (by omega) (by omega)).mp c_6
theorem lf_X6_amount_10 (a : Nat → Nat) (bc : Int32) (br : Int32) (bm : Int32) (ba : Int32) (bp : Int32) (pc_ : Nat → Int32) (c0 : Nat) (r0 : Nat) (w0 : Nat) (h0 : Nat) (hw : c0 + w0 ≤ 12) (hh : r0 + h0 ≤ 6) (j1 : Nat) (w1 : Int32) (k6 : Nat) (hj6 : j1 ≤ (r0 + h0)) (hk6 : (r0 + h0) < j1 + (k6 + 1)) (c_1 : ¬ nI (r0 + h0) ≤ nI j1) (n_4 : j1 < (r0 + h0)) (j2 : Nat) (w2 : Int32) (k18 : Nat) (hj18 : j2 ≤ (c0 + w0)) (hk18 : (c0 + w0) < j2 + (k18 + 1)) (c_6 : ¬ nI (c0 + w0) ≤ nI j2) : j2 < (c0 + w0) := by
  exact Nat.lt_of_not_le (fun q => c_6 ((nI_leI (a := (c0 + w0)) (b := j2) (by omega) (by omega)).mpr q))
theorem lf_X6_amount_11 (a : Nat → Nat) (bc : Int32) (br : Int32) (bm : Int32) (ba : Int32) (bp : Int32) (pc_ : Nat → Int32) (c0 : Nat) (r0 : Nat) (w0 : Nat) (h0 : Nat) (hw : c0 + w0 ≤ 12) (hh : r0 + h0 ≤ 6) (j1 : Nat) (w1 : Int32) (k6 : Nat) (hj6 : j1 ≤ (r0 + h0)) (hk6 : (r0 + h0) < j1 + (k6 + 1)) (c_1 : ¬ nI (r0 + h0) ≤ nI j1) (n_4 : j1 < (r0 + h0)) (j2 : Nat) (w2 : Int32) (k18 : Nat) (hj18 : j2 ≤ (c0 + w0)) (hk18 : (c0 + w0) < j2 + (k18 + 1)) (c_6 : ¬ nI (c0 + w0) ≤ nI j2) (n_9 : j2 < (c0 + w0)) : vp_in (nI ((j1 * 12) + j2)) 72 := by
  first | exact vp_in_nI (by omega) (by decide) | (unfold vp_in; decide)
set_option maxHeartbeats 4000000 in
set_option maxRecDepth 100000 in
theorem c_X6_amount (l : Launch) (D : va_G) (cI cB cZ cJ : ClassId) (tx : List (ClassId × FieldType)) (a : Nat → Nat) (bc : Int32) (br : Int32) (bm : Int32) (ba : Int32) (bp : Int32) (pc_ : Nat → Int32) (c0 : Nat) (r0 : Nat) (w0 : Nat) (h0 : Nat) (hw : c0 + w0 ≤ 12) (hh : r0 + h0 ≤ 6) : RdI l D cI cB cZ cJ tx yX6_amount cX6_amount 8 (some .int) 0 [.ref (a 11), .int (nI c0), .int (nI r0), .int (nI w0), .int (nI h0)] [(a 11, .inr (6, [.ref (a 47), .int bc, .int br, .int bm, .int ba, .int bp])), (a 47, .inl (cI, 72, .inl pc_))] (fun r => True) := by
  refine rdi_of2 (by decide) (Nat.le_of_ble_eq_true rfl) ?_
  intro p e s m below meth c A ls H locs hC hK hP hD hA hS hl
  obtain ⟨hx, hb, hr, hml, hown, hts, hlocks, hin⟩ := hC
  have hown : s.vm.findClass RX6 = some m.cls := hown
  have hl : lv_has ls 8 [(0, .ref (a 11)), (1, .int (nI c0)), (2, .int (nI r0)), (3, .int (nI w0)), (4, .int (nI h0))] := hl
  refine lv_iconst (v := 0) hx hb dX6_amount_0 (by decide) ?_
  refine lv_istore (lv' := [(5, .int 0), (0, .ref (a 11)), (1, .int (nI c0)), (2, .int (nI r0)), (3, .int (nI w0)), (4, .int (nI h0))]) hx hb dX6_amount_1 hl (by decide) rfl (fun ls hl => ?_)
  refine lv_iload_n hx hb dX6_amount_3 rfl (lv_at hl 3 rfl) ?_
  refine lv_istore (lv' := [(6, .int (nI r0)), (5, .int 0), (0, .ref (a 11)), (1, .int (nI c0)), (2, .int (nI r0)), (3, .int (nI w0)), (4, .int (nI h0))]) hx hb dX6_amount_4 hl (by decide) rfl (fun ls hl => ?_)
  have lp6 : ∀ (k6 : Nat) (j1 : Nat) (w1 : Int32) (H : Heap) (locs : List Loc) (ls : Array Slot), j1 ≤ (r0 + h0) → (r0 + h0) < j1 + k6 → va_P D vwCl [(a 11, .inr (6, [.ref (a 47), .int bc, .int br, .int bm, .int ba, .int bp])), (a 47, .inl (cI, 72, .inl pc_))] H → va_S A s.heap H locs → lv_has ls 8 [(6, .int (nI j1)), (5, .int w1), (0, .ref (a 11)), (1, .int (nI c0)), (2, .int (nI r0)), (3, .int (nI w0)), (4, .int (nI h0))] → W p l e (rmX 0 0 0) s m ([.ref (a 11), .int (nI c0), .int (nI r0), .int (nI w0), .int (nI h0)] : List Value).toArray below meth c H locs 0 0 (MQ below (va_Qi (fun r (_ : Unit) => (fun r => True) r) (fun _ _ => True) A) ([.ref (a 11), .int (nI c0), .int (nI r0), .int (nI w0), .int (nI h0)] : List Value).toArray s 0 0 A) (F0 m 6 ls []) := by
    intro k6
    induction k6 with
    | zero =>
      intro j1 w1 H locs ls hj6 hk6  hP hS hl
      exact absurd hk6 (by omega)
    | succ k6 ih6 =>
      intro j1 w1 H locs ls hj6 hk6  hP hS hl
      refine lv_iload hx hb dX6_amount_6 (lv_at hl 0 rfl) ?_
      refine lv_iload_n hx hb dX6_amount_8 rfl (lv_at hl 4 rfl) ?_
      refine lv_iload hx hb dX6_amount_9 (lv_at hl 6 rfl) ?_
      refine lv_iadd hx hb dX6_amount_11 ?_
      refine lv_topv (y := nI (r0 + h0)) (nI_add r0 h0) ?_
      refine lv_icmp_ge (tgt := 56) hx hb dX6_amount_12 (by decide) (fun c_1 => ?_) (fun c_1 => ?_)
      · have n_2 : (r0 + h0) ≤ j1 := (lf_X6_amount_3 a bc br bm ba bp pc_ c0 r0 w0 h0 hw hh j1 w1 k6 hj6 hk6 c_1)
        refine lv_iload hx hb dX6_amount_56 (lv_at hl 1 rfl) ?_
        exact W.iret (v := w1) hx hb hr (fun tt9 ht hW => ⟨⟨(w1 : Int32), (), rfl, trivial, trivial⟩, hS.F ht⟩) hS.2.2 dX6_amount_58 hlocks
      · have n_4 : j1 < (r0 + h0) := (lf_X6_amount_5 a bc br bm ba bp pc_ c0 r0 w0 h0 hw hh j1 w1 k6 hj6 hk6 c_1)
        refine lv_iload_n hx hb dX6_amount_15 rfl (lv_at hl 3 rfl) ?_
        refine lv_istore (lv' := [(7, .int (nI c0)), (6, .int (nI j1)), (5, .int w1), (0, .ref (a 11)), (1, .int (nI c0)), (2, .int (nI r0)), (3, .int (nI w0)), (4, .int (nI h0))]) hx hb dX6_amount_16 hl (by decide) rfl (fun ls hl => ?_)
        have lp18 : ∀ (k18 : Nat) (j2 : Nat) (w2 : Int32) (H : Heap) (locs : List Loc) (ls : Array Slot), j2 ≤ (c0 + w0) → (c0 + w0) < j2 + k18 → va_P D vwCl [(a 11, .inr (6, [.ref (a 47), .int bc, .int br, .int bm, .int ba, .int bp])), (a 47, .inl (cI, 72, .inl pc_))] H → va_S A s.heap H locs → lv_has ls 8 [(7, .int (nI j2)), (6, .int (nI j1)), (5, .int w2), (0, .ref (a 11)), (1, .int (nI c0)), (2, .int (nI r0)), (3, .int (nI w0)), (4, .int (nI h0))] → W p l e (rmX 0 0 0) s m ([.ref (a 11), .int (nI c0), .int (nI r0), .int (nI w0), .int (nI h0)] : List Value).toArray below meth c H locs 0 0 (MQ below (va_Qi (fun r (_ : Unit) => (fun r => True) r) (fun _ _ => True) A) ([.ref (a 11), .int (nI c0), .int (nI r0), .int (nI w0), .int (nI h0)] : List Value).toArray s 0 0 A) (F0 m 18 ls []) := by
          intro k18
          induction k18 with
          | zero =>
            intro j2 w2 H locs ls hj18 hk18  hP hS hl
            exact absurd hk18 (by omega)
          | succ k18 ih18 =>
            intro j2 w2 H locs ls hj18 hk18  hP hS hl
            refine lv_iload hx hb dX6_amount_18 (lv_at hl 0 rfl) ?_
            refine lv_iload_n hx hb dX6_amount_20 rfl (lv_at hl 4 rfl) ?_
            refine lv_iload_n hx hb dX6_amount_21 rfl (lv_at hl 6 rfl) ?_
            refine lv_iadd hx hb dX6_amount_22 ?_
            refine lv_topv (y := nI (c0 + w0)) (nI_add c0 w0) ?_
            refine lv_icmp_ge (tgt := 50) hx hb dX6_amount_23 (by decide) (fun c_6 => ?_) (fun c_6 => ?_)
            · have n_7 : (c0 + w0) ≤ j2 := (lf_X6_amount_8 a bc br bm ba bp pc_ c0 r0 w0 h0 hw hh j1 w1 k6 hj6 hk6 c_1 n_4 j2 w2 k18 hj18 hk18 c_6)
              refine lv_iinc (v := nI (j1 + 1)) (lv' := [(6, .int (nI (j1 + 1))), (7, .int (nI j2)), (5, .int w2), (0, .ref (a 11)), (1, .int (nI c0)), (2, .int (nI r0)), (3, .int (nI w0)), (4, .int (nI h0))]) hx hb dX6_amount_50 hl (k := 1) rfl (nI_1 j1) (by decide) rfl (fun ls hl => ?_)
              refine lv_goto (tgt := 6) hx hb dX6_amount_53 (by decide) ?_
              exact ih6 (j1 + 1) w2 H locs ls (by omega) (by omega)  (hP.sub [0, 1] rfl)  hS (lv_sub hl [0, 2, 3, 4, 5, 6, 7] rfl)
            · have n_9 : j2 < (c0 + w0) := (lf_X6_amount_10 a bc br bm ba bp pc_ c0 r0 w0 h0 hw hh j1 w1 k6 hj6 hk6 c_1 n_4 j2 w2 k18 hj18 hk18 c_6)
              refine lv_iload hx hb dX6_amount_26 (lv_at hl 2 rfl) ?_
              refine lv_aload_n hx hb dX6_amount_28 rfl (lv_at hl 3 rfl) ?_
              refine va_get (D := D) (ci := 6) (v := .ref (a 47)) (C := RX6) (T := TX6) (N := 6) hx hb hts inT_X6 hown hK.1 hP 0 rfl rfl 0 (by decide) (hts _ k_441) (fun _ h9 => h9) rfl dX6_amount_29 ?_
              refine lv_iload hx hb dX6_amount_32 (lv_at hl 1 rfl) ?_
              refine lv_bipush (v := 12) hx hb dX6_amount_34 (by decide) ?_
              refine lv_imul hx hb dX6_amount_36 ?_
              refine lv_topv (y := nI (j1 * 12)) (pk_mul j1 12) ?_
              refine lv_iload hx hb dX6_amount_37 (lv_at hl 0 rfl) ?_
              refine lv_iadd hx hb dX6_amount_39 ?_
              refine lv_topv (y := nI ((j1 * 12) + j2)) (nI_add (j1 * 12) j2) ?_
              refine ld_i hx hb hK hP 1 rfl (lf_X6_amount_11 a bc br bm ba bp pc_ c0 r0 w0 h0 hw hh j1 w1 k6 hj6 hk6 c_1 n_4 j2 w2 k18 hj18 hk18 c_6 n_9) dX6_amount_40 (fun x_12 => ?_)
              refine lv_iadd hx hb dX6_amount_41 ?_
              refine lv_topi (fun x_13 ex_13 => ?_)
              refine lv_istore (lv' := [(5, .int x_13), (7, .int (nI j2)), (6, .int (nI j1)), (0, .ref (a 11)), (1, .int (nI c0)), (2, .int (nI r0)), (3, .int (nI w0)), (4, .int (nI h0))]) hx hb dX6_amount_42 hl (by decide) rfl (fun ls hl => ?_)
              refine lv_iinc (v := nI (j2 + 1)) (lv' := [(7, .int (nI (j2 + 1))), (5, .int x_13), (6, .int (nI j1)), (0, .ref (a 11)), (1, .int (nI c0)), (2, .int (nI r0)), (3, .int (nI w0)), (4, .int (nI h0))]) hx hb dX6_amount_44 hl (k := 1) rfl (nI_1 j2) (by decide) rfl (fun ls hl => ?_)
              refine lv_goto (tgt := 18) hx hb dX6_amount_47 (by decide) ?_
              exact ih18 (j2 + 1) x_13 H locs ls (by omega) (by omega)  (hP.sub [0, 1] rfl)  hS (lv_sub hl [0, 2, 1, 3, 4, 5, 6, 7] rfl)
        exact lp18 ((c0 + w0) + 1) c0 w1 H locs ls (by omega) (by omega)  (hP.sub [0, 1] rfl)  hS (lv_sub hl [0, 1, 2, 3, 4, 5, 6, 7] rfl)
  exact lp6 ((r0 + h0) + 1) r0 0 H locs ls (by omega) (by omega)  (hP.sub [0, 1] rfl)  hS (lv_sub hl [0, 1, 2, 3, 4, 5, 6] rfl)

theorem lf_X6_seek_3 (a : Nat → Nat) (bc : Int32) (br : Int32) (bm : Int32) (ba : Int32) (bp : Int32) (pc_ : Nat → Int32) (w0 : Nat) (h0 : Nat) (hw1 : 1 ≤ w0) (hw2 : w0 ≤ 12) (hh1 : 1 ≤ h0) (hh2 : h0 ≤ 6) (j1 : Nat) (bc_j1 : Int32) (br_j1 : Int32) (bm_j1 : Int32) (ba_j1 : Int32) (bp_j1 : Int32) (k17 : Nat) (hj17 : j1 ≤ (7 - h0)) (hk17 : (7 - h0) < j1 + (k17 + 1)) (c_1 : 6 < nI (j1 + h0)) : 6 < (j1 + h0) := by
  exact (nI_ltI (a := 6) (b := (j1 + h0)) (by omega) (by omega)).mp c_1
theorem lf_X6_seek_5 (a : Nat → Nat) (bc : Int32) (br : Int32) (bm : Int32) (ba : Int32) (bp : Int32) (pc_ : Nat → Int32) (w0 : Nat) (h0 : Nat) (hw1 : 1 ≤ w0) (hw2 : w0 ≤ 12) (hh1 : 1 ≤ h0) (hh2 : h0 ≤ 6) (j1 : Nat) (bc_j1 : Int32) (br_j1 : Int32) (bm_j1 : Int32) (ba_j1 : Int32) (bp_j1 : Int32) (k17 : Nat) (hj17 : j1 ≤ (7 - h0)) (hk17 : (7 - h0) < j1 + (k17 + 1)) (c_1 : ¬ 6 < nI (j1 + h0)) : (j1 + h0) ≤ 6 := by
  exact Nat.le_of_not_lt (fun q => c_1 ((nI_ltI (a := 6) (b := (j1 + h0)) (by omega) (by omega)).mpr q))
theorem lf_X6_seek_8 (a : Nat → Nat) (bc : Int32) (br : Int32) (bm : Int32) (ba : Int32) (bp : Int32) (pc_ : Nat → Int32) (w0 : Nat) (h0 : Nat) (hw1 : 1 ≤ w0) (hw2 : w0 ≤ 12) (hh1 : 1 ≤ h0) (hh2 : h0 ≤ 6) (j1 : Nat) (bc_j1 : Int32) (br_j1 : Int32) (bm_j1 : Int32) (ba_j1 : Int32) (bp_j1 : Int32) (k17 : Nat) (hj17 : j1 ≤ (7 - h0)) (hk17 : (7 - h0) < j1 + (k17 + 1)) (c_1 : ¬ 6 < nI (j1 + h0)) (n_4 : (j1 + h0) ≤ 6) (j2 : Nat) (bc_j2 : Int32) (br_j2 : Int32) (bm_j2 : Int32) (ba_j2 : Int32) (bp_j2 : Int32) (k28 : Nat) (hj28 : j2 ≤ (13 - w0)) (hk28 : (13 - w0) < j2 + (k28 + 1)) (c_6 : 12 < nI (j2 + w0)) : 12 < (j2 + w0) := by
  exact (nI_ltI (a := 12) (b := (j2 + w0)) (by omega) (by omega)).mp c_6
theorem lf_X6_seek_10 (a : Nat → Nat) (bc : Int32) (br : Int32) (bm : Int32) (ba : Int32) (bp : Int32) (pc_ : Nat → Int32) (w0 : Nat) (h0 : Nat) (hw1 : 1 ≤ w0) (hw2 : w0 ≤ 12) (hh1 : 1 ≤ h0) (hh2 : h0 ≤ 6) (j1 : Nat) (bc_j1 : Int32) (br_j1 : Int32) (bm_j1 : Int32) (ba_j1 : Int32) (bp_j1 : Int32) (k17 : Nat) (hj17 : j1 ≤ (7 - h0)) (hk17 : (7 - h0) < j1 + (k17 + 1)) (c_1 : ¬ 6 < nI (j1 + h0)) (n_4 : (j1 + h0) ≤ 6) (j2 : Nat) (bc_j2 : Int32) (br_j2 : Int32) (bm_j2 : Int32) (ba_j2 : Int32) (bp_j2 : Int32) (k28 : Nat) (hj28 : j2 ≤ (13 - w0)) (hk28 : (13 - w0) < j2 + (k28 + 1)) (c_6 : ¬ 12 < nI (j2 + w0)) : (j2 + w0) ≤ 12 := by
  exact Nat.le_of_not_lt (fun q => c_6 ((nI_ltI (a := 12) (b := (j2 + w0)) (by omega) (by omega)).mpr q))
theorem lf_X6_seek_11 (a : Nat → Nat) (bc : Int32) (br : Int32) (bm : Int32) (ba : Int32) (bp : Int32) (pc_ : Nat → Int32) (w0 : Nat) (h0 : Nat) (hw1 : 1 ≤ w0) (hw2 : w0 ≤ 12) (hh1 : 1 ≤ h0) (hh2 : h0 ≤ 6) (j1 : Nat) (bc_j1 : Int32) (br_j1 : Int32) (bm_j1 : Int32) (ba_j1 : Int32) (bp_j1 : Int32) (k17 : Nat) (hj17 : j1 ≤ (7 - h0)) (hk17 : (7 - h0) < j1 + (k17 + 1)) (c_1 : ¬ 6 < nI (j1 + h0)) (n_4 : (j1 + h0) ≤ 6) (j2 : Nat) (bc_j2 : Int32) (br_j2 : Int32) (bm_j2 : Int32) (ba_j2 : Int32) (bp_j2 : Int32) (k28 : Nat) (hj28 : j2 ≤ (13 - w0)) (hk28 : (13 - w0) < j2 + (k28 + 1)) (c_6 : ¬ 12 < nI (j2 + w0)) (n_9 : (j2 + w0) ≤ 12) : j2 + w0 ≤ 12 := by
  first | assumption | omega | decide
theorem lf_X6_seek_12 (a : Nat → Nat) (bc : Int32) (br : Int32) (bm : Int32) (ba : Int32) (bp : Int32) (pc_ : Nat → Int32) (w0 : Nat) (h0 : Nat) (hw1 : 1 ≤ w0) (hw2 : w0 ≤ 12) (hh1 : 1 ≤ h0) (hh2 : h0 ≤ 6) (j1 : Nat) (bc_j1 : Int32) (br_j1 : Int32) (bm_j1 : Int32) (ba_j1 : Int32) (bp_j1 : Int32) (k17 : Nat) (hj17 : j1 ≤ (7 - h0)) (hk17 : (7 - h0) < j1 + (k17 + 1)) (c_1 : ¬ 6 < nI (j1 + h0)) (n_4 : (j1 + h0) ≤ 6) (j2 : Nat) (bc_j2 : Int32) (br_j2 : Int32) (bm_j2 : Int32) (ba_j2 : Int32) (bp_j2 : Int32) (k28 : Nat) (hj28 : j2 ≤ (13 - w0)) (hk28 : (13 - w0) < j2 + (k28 + 1)) (c_6 : ¬ 12 < nI (j2 + w0)) (n_9 : (j2 + w0) ≤ 12) : j1 + h0 ≤ 6 := by
  first | assumption | omega | decide
set_option maxHeartbeats 4000000 in
set_option maxRecDepth 100000 in
theorem c_X6_seek (l : Launch) (D : va_G) (cI cB cZ cJ : ClassId) (tx : List (ClassId × FieldType)) (a : Nat → Nat) (bc : Int32) (br : Int32) (bm : Int32) (ba : Int32) (bp : Int32) (pc_ : Nat → Int32) (w0 : Nat) (h0 : Nat) (hw1 : 1 ≤ w0) (hw2 : w0 ≤ 12) (hh1 : 1 ≤ h0) (hh2 : h0 ≤ 6) : WrV l D cI cB cZ cJ tx yX6_seek cX6_seek 5 none 1 0 0 [.ref (a 11), .int (nI w0), .int (nI h0)] [(a 11, .inr (6, [.ref (a 47), .int bc, .int br, .int bm, .int ba, .int bp])), (a 47, .inl (cI, 72, .inl pc_))] (fun (v : (Int32) × (Int32) × (Int32) × (Int32) × (Int32)) => True) (fun v => [(a 11, .inr (6, [.ref (a 47), .int v.1, .int v.2.1, .int v.2.2.1, .int v.2.2.2.1, .int v.2.2.2.2])), (a 47, .inl (cI, 72, .inl pc_))]) := by
  refine wrv_of2 (by decide) (Nat.le_of_ble_eq_true rfl) ?_
  intro p e s m below meth c A ls H locs hC hK hP hD hA hS hl
  obtain ⟨hx, hb, hr, hml, hown, hts, hlocks, hin⟩ := hC
  have hown : s.vm.findClass RX6 = some m.cls := hown
  have hl : lv_has ls 5 [(0, .ref (a 11)), (1, .int (nI w0)), (2, .int (nI h0))] := hl
  refine lv_aload_n hx hb dX6_seek_0 rfl (lv_at hl 0 rfl) ?_
  refine lv_iconst (v := (-1)) hx hb dX6_seek_1 (by decide) ?_
  refine va_put (D := D) (ci := 6) (v := .int (-1)) (ty := .int) (C := RX6) (T := TX6) (N := 6) hx hb hts inT_X6 tyX6 tyX6_ok nmX6 hown hK.1 hP hD hS 0 rfl rfl 3 (by decide) (hts _ k_446) (fun _ h9 => h9) rfl (by decide +kernel) rfl rfl (Nat.le_of_ble_eq_true rfl) dX6_seek_2 (fun H locs hP hD hS => ?_)
  have hP : va_P D vwCl [(a 11, .inr (6, [.ref (a 47), .int bc, .int br, .int (-1), .int ba, .int bp])), (a 47, .inl (cI, 72, .inl pc_))] H := hP
  have hD : va_D A [(a 11, .inr (6, [.ref (a 47), .int bc, .int br, .int (-1), .int ba, .int bp])), (a 47, .inl (cI, 72, .inl pc_))] := hD
  refine lv_aload_n hx hb dX6_seek_5 rfl (lv_at hl 0 rfl) ?_
  refine lv_iconst (v := 0) hx hb dX6_seek_6 (by decide) ?_
  refine va_put (D := D) (ci := 6) (v := .int 0) (ty := .int) (C := RX6) (T := TX6) (N := 6) hx hb hts inT_X6 tyX6 tyX6_ok nmX6 hown hK.1 hP hD hS 0 rfl rfl 4 (by decide) (hts _ k_448) (fun _ h9 => h9) rfl (by decide +kernel) rfl rfl (Nat.le_of_ble_eq_true rfl) dX6_seek_7 (fun H locs hP hD hS => ?_)
  have hP : va_P D vwCl [(a 11, .inr (6, [.ref (a 47), .int bc, .int br, .int (-1), .int 0, .int bp])), (a 47, .inl (cI, 72, .inl pc_))] H := hP
  have hD : va_D A [(a 11, .inr (6, [.ref (a 47), .int bc, .int br, .int (-1), .int 0, .int bp])), (a 47, .inl (cI, 72, .inl pc_))] := hD
  refine lv_aload_n hx hb dX6_seek_10 rfl (lv_at hl 0 rfl) ?_
  refine lv_iconst (v := 0) hx hb dX6_seek_11 (by decide) ?_
  refine va_put (D := D) (ci := 6) (v := .int 0) (ty := .int) (C := RX6) (T := TX6) (N := 6) hx hb hts inT_X6 tyX6 tyX6_ok nmX6 hown hK.1 hP hD hS 0 rfl rfl 5 (by decide) (hts _ k_450) (fun _ h9 => h9) rfl (by decide +kernel) rfl rfl (Nat.le_of_ble_eq_true rfl) dX6_seek_12 (fun H locs hP hD hS => ?_)
  have hP : va_P D vwCl [(a 11, .inr (6, [.ref (a 47), .int bc, .int br, .int (-1), .int 0, .int 0])), (a 47, .inl (cI, 72, .inl pc_))] H := hP
  have hD : va_D A [(a 11, .inr (6, [.ref (a 47), .int bc, .int br, .int (-1), .int 0, .int 0])), (a 47, .inl (cI, 72, .inl pc_))] := hD
  refine lv_iconst (v := 0) hx hb dX6_seek_15 (by decide) ?_
  refine lv_istore_n (lv' := [(3, .int 0), (0, .ref (a 11)), (1, .int (nI w0)), (2, .int (nI h0))]) hx hb dX6_seek_16 rfl hl (by decide) rfl (fun ls hl => ?_)
  have lp17 : ∀ (k17 : Nat) (j1 : Nat) (bc_j1 : Int32) (br_j1 : Int32) (bm_j1 : Int32) (ba_j1 : Int32) (bp_j1 : Int32) (H : Heap) (locs : List Loc) (ls : Array Slot), j1 ≤ (7 - h0) → (7 - h0) < j1 + k17 → va_P D vwCl [(a 11, .inr (6, [.ref (a 47), .int bc_j1, .int br_j1, .int bm_j1, .int ba_j1, .int bp_j1])), (a 47, .inl (cI, 72, .inl pc_))] H → va_D A [(a 11, .inr (6, [.ref (a 47), .int bc_j1, .int br_j1, .int bm_j1, .int ba_j1, .int bp_j1])), (a 47, .inl (cI, 72, .inl pc_))] → va_S A s.heap H locs → lv_has ls 5 [(3, .int (nI j1)), (0, .ref (a 11)), (1, .int (nI w0)), (2, .int (nI h0))] → W p l e (rmX 1 0 0) s m ([.ref (a 11), .int (nI w0), .int (nI h0)] : List Value).toArray below meth c H locs 0 0 (MQ below (va_Qv (fun (v : (Int32) × (Int32) × (Int32) × (Int32) × (Int32)) => True) (fun u => BX D A ((fun v => [(a 11, .inr (6, [.ref (a 47), .int v.1, .int v.2.1, .int v.2.2.1, .int v.2.2.2.1, .int v.2.2.2.2])), (a 47, .inl (cI, 72, .inl pc_))]) u)) A) ([.ref (a 11), .int (nI w0), .int (nI h0)] : List Value).toArray s 0 0 A) (F0 m 17 ls []) := by
    intro k17
    induction k17 with
    | zero =>
      intro j1 bc_j1 br_j1 bm_j1 ba_j1 bp_j1 H locs ls hj17 hk17  hP hD hS hl
      exact absurd hk17 (by omega)
    | succ k17 ih17 =>
      intro j1 bc_j1 br_j1 bm_j1 ba_j1 bp_j1 H locs ls hj17 hk17  hP hD hS hl
      refine lv_iload_n hx hb dX6_seek_17 rfl (lv_at hl 0 rfl) ?_
      refine lv_iload_n hx hb dX6_seek_18 rfl (lv_at hl 3 rfl) ?_
      refine lv_iadd hx hb dX6_seek_19 ?_
      refine lv_topv (y := nI (j1 + h0)) (nI_add j1 h0) ?_
      refine lv_bipush (v := 6) hx hb dX6_seek_20 (by decide) ?_
      refine lv_icmp_gt (tgt := 65) hx hb dX6_seek_22 (by decide) (fun c_1 => ?_) (fun c_1 => ?_)
      · have n_2 : 6 < (j1 + h0) := (lf_X6_seek_3 a bc br bm ba bp pc_ w0 h0 hw1 hw2 hh1 hh2 j1 bc_j1 br_j1 bm_j1 ba_j1 bp_j1 k17 hj17 hk17 c_1)
        exact W.vret hx hb hr (fun tt9 ht hW => ⟨⟨((bc_j1 : Int32), (br_j1 : Int32), (bm_j1 : Int32), (ba_j1 : Int32), (bp_j1 : Int32)), rfl, trivial, ⟨by rw [ht]; exact hP, hD⟩⟩, hS.F ht⟩) hS.2.2 dX6_seek_65 hlocks
      · have n_4 : (j1 + h0) ≤ 6 := (lf_X6_seek_5 a bc br bm ba bp pc_ w0 h0 hw1 hw2 hh1 hh2 j1 bc_j1 br_j1 bm_j1 ba_j1 bp_j1 k17 hj17 hk17 c_1)
        refine lv_iconst (v := 0) hx hb dX6_seek_25 (by decide) ?_
        refine lv_istore (lv' := [(4, .int 0), (3, .int (nI j1)), (0, .ref (a 11)), (1, .int (nI w0)), (2, .int (nI h0))]) hx hb dX6_seek_26 hl (by decide) rfl (fun ls hl => ?_)
        have lp28 : ∀ (k28 : Nat) (j2 : Nat) (bc_j2 : Int32) (br_j2 : Int32) (bm_j2 : Int32) (ba_j2 : Int32) (bp_j2 : Int32) (H : Heap) (locs : List Loc) (ls : Array Slot), j2 ≤ (13 - w0) → (13 - w0) < j2 + k28 → va_P D vwCl [(a 11, .inr (6, [.ref (a 47), .int bc_j2, .int br_j2, .int bm_j2, .int ba_j2, .int bp_j2])), (a 47, .inl (cI, 72, .inl pc_))] H → va_D A [(a 11, .inr (6, [.ref (a 47), .int bc_j2, .int br_j2, .int bm_j2, .int ba_j2, .int bp_j2])), (a 47, .inl (cI, 72, .inl pc_))] → va_S A s.heap H locs → lv_has ls 5 [(4, .int (nI j2)), (3, .int (nI j1)), (0, .ref (a 11)), (1, .int (nI w0)), (2, .int (nI h0))] → W p l e (rmX 1 0 0) s m ([.ref (a 11), .int (nI w0), .int (nI h0)] : List Value).toArray below meth c H locs 0 0 (MQ below (va_Qv (fun (v : (Int32) × (Int32) × (Int32) × (Int32) × (Int32)) => True) (fun u => BX D A ((fun v => [(a 11, .inr (6, [.ref (a 47), .int v.1, .int v.2.1, .int v.2.2.1, .int v.2.2.2.1, .int v.2.2.2.2])), (a 47, .inl (cI, 72, .inl pc_))]) u)) A) ([.ref (a 11), .int (nI w0), .int (nI h0)] : List Value).toArray s 0 0 A) (F0 m 28 ls []) := by
          intro k28
          induction k28 with
          | zero =>
            intro j2 bc_j2 br_j2 bm_j2 ba_j2 bp_j2 H locs ls hj28 hk28  hP hD hS hl
            exact absurd hk28 (by omega)
          | succ k28 ih28 =>
            intro j2 bc_j2 br_j2 bm_j2 ba_j2 bp_j2 H locs ls hj28 hk28  hP hD hS hl
            refine lv_iload hx hb dX6_seek_28 (lv_at hl 0 rfl) ?_
            refine lv_iload_n hx hb dX6_seek_30 rfl (lv_at hl 3 rfl) ?_
            refine lv_iadd hx hb dX6_seek_31 ?_
            refine lv_topv (y := nI (j2 + w0)) (nI_add j2 w0) ?_
            refine lv_bipush (v := 12) hx hb dX6_seek_32 (by decide) ?_
            refine lv_icmp_gt (tgt := 59) hx hb dX6_seek_34 (by decide) (fun c_6 => ?_) (fun c_6 => ?_)
            · have n_7 : 12 < (j2 + w0) := (lf_X6_seek_8 a bc br bm ba bp pc_ w0 h0 hw1 hw2 hh1 hh2 j1 bc_j1 br_j1 bm_j1 ba_j1 bp_j1 k17 hj17 hk17 c_1 n_4 j2 bc_j2 br_j2 bm_j2 ba_j2 bp_j2 k28 hj28 hk28 c_6)
              refine lv_iinc (v := nI (j1 + 1)) (lv' := [(3, .int (nI (j1 + 1))), (4, .int (nI j2)), (0, .ref (a 11)), (1, .int (nI w0)), (2, .int (nI h0))]) hx hb dX6_seek_59 hl (k := 1) rfl (nI_1 j1) (by decide) rfl (fun ls hl => ?_)
              refine lv_goto (tgt := 17) hx hb dX6_seek_62 (by decide) ?_
              exact ih17 (j1 + 1) bc_j2 br_j2 bm_j2 ba_j2 bp_j2 H locs ls (by omega) (by omega)  (hP.sub [0, 1] rfl) (hD.sub [0, 1] (by decide) rfl) hS (lv_sub hl [0, 2, 3, 4] rfl)
            · have n_9 : (j2 + w0) ≤ 12 := (lf_X6_seek_10 a bc br bm ba bp pc_ w0 h0 hw1 hw2 hh1 hh2 j1 bc_j1 br_j1 bm_j1 ba_j1 bp_j1 k17 hj17 hk17 c_1 n_4 j2 bc_j2 br_j2 bm_j2 ba_j2 bp_j2 k28 hj28 hk28 c_6)
              refine lv_aload_n hx hb dX6_seek_37 rfl (lv_at hl 2 rfl) ?_
              refine lv_iload hx hb dX6_seek_38 (lv_at hl 0 rfl) ?_
              refine lv_iload_n hx hb dX6_seek_40 rfl (lv_at hl 1 rfl) ?_
              refine lv_aload_n hx hb dX6_seek_41 rfl (lv_at hl 2 rfl) ?_
              refine lv_iload hx hb dX6_seek_42 (lv_at hl 0 rfl) ?_
              refine lv_iload_n hx hb dX6_seek_44 rfl (lv_at hl 1 rfl) ?_
              refine lv_iload_n hx hb dX6_seek_45 rfl (lv_at hl 3 rfl) ?_
              refine lv_iload_n hx hb dX6_seek_46 rfl (lv_at hl 4 rfl) ?_
              refine eRi (va_runV (As := [.int (nI j2), .int (nI j1), .int (nI w0), .int (nI h0)]) (rest := [.int (nI j1), .int (nI j2), .ref (a 11)]) ⟨hx, hb, hml, hown, hts⟩ (c_X6_amount l D cI cB cZ cJ tx a bc_j2 br_j2 bm_j2 ba_j2 bp_j2 pc_ j2 j1 w0 h0 (lf_X6_seek_11 a bc br bm ba bp pc_ w0 h0 hw1 hw2 hh1 hh2 j1 bc_j1 br_j1 bm_j1 ba_j1 bp_j1 k17 hj17 hk17 c_1 n_4 j2 bc_j2 br_j2 bm_j2 ba_j2 bp_j2 k28 hj28 hk28 c_6 n_9) (lf_X6_seek_12 a bc br bm ba bp pc_ w0 h0 hw1 hw2 hh1 hh2 j1 bc_j1 br_j1 bm_j1 ba_j1 bp_j1 k17 hj17 hk17 c_1 n_4 j2 bc_j2 br_j2 bm_j2 ba_j2 bp_j2 k28 hj28 hk28 c_6 n_9) H.size) (zV hts k_1181 v_X6_amount ⟨Nat.le_of_ble_eq_true rfl, Nat.le_of_ble_eq_true rfl⟩) (pV (pxS hK hP hD [0, 1] (by decide) rfl) hK hP 0 rfl rfl) rfl rfl hl.1 rfl (lv_room (Nat.le_of_ble_eq_true rfl)) dX6_seek_47 ⟨Nat.le_of_ble_eq_true rfl, Nat.le_of_ble_eq_true rfl⟩) hP hS hA (fun r_13 H locs wr_13 hP hS => ?_)
              refine eWv (wr := [(a 47, .inl (cI, 72, .inl pc_))]) (va_runV (As := [.int (nI j2), .int (nI j1), .int r_13]) (rest := []) ⟨hx, hb, hml, hown, hts⟩ (c_X6_weigh l D cI cB cZ cJ tx a bc_j2 br_j2 bm_j2 ba_j2 bp_j2 (nI j2) (nI j1) r_13 H.size) (zV hts k_1185 v_X6_weigh ⟨Nat.le_of_ble_eq_true rfl, Nat.le_of_ble_eq_true rfl⟩) (pV (pxS hK hP hD [0] (by decide) rfl) hK hP 0 rfl rfl) rfl rfl hl.1 rfl (lv_room (Nat.le_of_ble_eq_true rfl)) dX6_seek_50 ⟨Nat.le_of_ble_eq_true rfl, Nat.le_of_ble_eq_true rfl⟩) hP hD hS hA [0] [1] rfl rfl (by decide) (by decide) (fun u_15 H locs wr_14 hP hD hS => ?_)
              obtain ⟨bc_15, br_15, bm_15, ba_15, bp_15⟩ := u_15
              have hP : va_P D vwCl [(a 47, .inl (cI, 72, .inl pc_)), (a 11, .inr (6, [.ref (a 47), .int bc_15, .int br_15, .int bm_15, .int ba_15, .int bp_15]))] H := hP
              have hD : va_D A [(a 47, .inl (cI, 72, .inl pc_)), (a 11, .inr (6, [.ref (a 47), .int bc_15, .int br_15, .int bm_15, .int ba_15, .int bp_15]))] := hD
              refine lv_iinc (v := nI (j2 + 1)) (lv' := [(4, .int (nI (j2 + 1))), (3, .int (nI j1)), (0, .ref (a 11)), (1, .int (nI w0)), (2, .int (nI h0))]) hx hb dX6_seek_53 hl (k := 0) rfl (nI_1 j2) (by decide) rfl (fun ls hl => ?_)
              refine lv_goto (tgt := 28) hx hb dX6_seek_56 (by decide) ?_
              exact ih28 (j2 + 1) bc_15 br_15 bm_15 ba_15 bp_15 H locs ls (by omega) (by omega)  (hP.sub [1, 0] rfl) (hD.sub [1, 0] (by decide) rfl) hS (lv_sub hl [0, 1, 2, 3, 4] rfl)
        exact lp28 ((13 - w0) + 1) 0 bc_j1 br_j1 bm_j1 ba_j1 bp_j1 H locs ls (by omega) (by omega)  (hP.sub [0, 1] rfl) (hD.sub [0, 1] (by decide) rfl) hS (lv_sub hl [0, 1, 2, 3, 4] rfl)
  exact lp17 ((7 - h0) + 1) 0 bc br (-1) 0 0 H locs ls (by omega) (by omega)  (hP.sub [0, 1] rfl) (hD.sub [0, 1] (by decide) rfl) hS (lv_sub hl [0, 1, 2, 3] rfl)

theorem lf_X7_tell_2 (a : Nat → Nat) (y0 : Nat → Int32) (y1 : Nat → Int32) (x1 : Nat) (x2 : Nat) (n3 : Int32) (hx1 : x1 ≤ 5) (hx2 : x2 ≤ 5) : vp_in (nI ((x1 * 6) + x2)) 36 := by
  first | exact vp_in_nI (by omega) (by decide) | (unfold vp_in; decide)
theorem lf_X7_tell_4 (a : Nat → Nat) (y0 : Nat → Int32) (y1 : Nat → Int32) (x1 : Nat) (x2 : Nat) (n3 : Int32) (hx1 : x1 ≤ 5) (hx2 : x2 ≤ 5) (f_1 : Nat → Int32) : vp_in (nI x1) 6 := by
  first | exact vp_in_nI (by omega) (by decide) | (unfold vp_in; decide)
set_option maxHeartbeats 4000000 in
set_option maxRecDepth 100000 in
theorem c_X7_tell (l : Launch) (D : va_G) (cI cB cZ cJ : ClassId) (tx : List (ClassId × FieldType)) (a : Nat → Nat) (y0 : Nat → Int32) (y1 : Nat → Int32) (x1 : Nat) (x2 : Nat) (n3 : Int32) (hx1 : x1 ≤ 5) (hx2 : x2 ≤ 5) : WrV l D cI cB cZ cJ tx yX7_tell cX7_tell 4 none 0 0 0 [.ref (a 12), .int (nI x1), .int (nI x2), .int n3] [(a 12, .inr (7, [.ref (a 48), .ref (a 49), .ref (a 50)])), (a 48, .inl (cI, 36, .inl y0)), (a 49, .inl (cZ, 6, .inl y1))] (fun (v : (Nat → Int32) × (Nat → Int32)) => True) (fun v => [(a 12, .inr (7, [.ref (a 48), .ref (a 49), .ref (a 50)])), (a 48, .inl (cI, 36, .inl v.1)), (a 49, .inl (cZ, 6, .inl v.2))]) := by
  refine wrv_of2 (by decide) (Nat.le_of_ble_eq_true rfl) ?_
  intro p e s m below meth c A ls H locs hC hK hP hD hA hS hl
  obtain ⟨hx, hb, hr, hml, hown, hts, hlocks, hin⟩ := hC
  have hown : s.vm.findClass RX7 = some m.cls := hown
  have hl : lv_has ls 4 [(0, .ref (a 12)), (1, .int (nI x1)), (2, .int (nI x2)), (3, .int n3)] := hl
  refine lv_aload_n hx hb dX7_tell_0 rfl (lv_at hl 0 rfl) ?_
  refine va_get (D := D) (ci := 7) (v := .ref (a 48)) (C := RX7) (T := TX7) (N := 3) hx hb hts inT_X7 hown hK.1 hP 0 rfl rfl 0 (by decide) (hts _ k_471) (fun _ h9 => h9) rfl dX7_tell_1 ?_
  refine lv_iload_n hx hb dX7_tell_4 rfl (lv_at hl 1 rfl) ?_
  refine lv_bipush (v := 6) hx hb dX7_tell_5 (by decide) ?_
  refine lv_imul hx hb dX7_tell_7 ?_
  refine lv_topv (y := nI (x1 * 6)) (pk_mul x1 6) ?_
  refine lv_iload_n hx hb dX7_tell_8 rfl (lv_at hl 2 rfl) ?_
  refine lv_iadd hx hb dX7_tell_9 ?_
  refine lv_topv (y := nI ((x1 * 6) + x2)) (nI_add (x1 * 6) x2) ?_
  refine lv_iload_n hx hb dX7_tell_10 rfl (lv_at hl 3 rfl) ?_
  refine st_i hx hb hK hP hD hS 1 rfl (lf_X7_tell_2 a y0 y1 x1 x2 n3 hx1 hx2) dX7_tell_11 (fun f_1 H locs hP hD hS => ?_)
  have hP : va_P D vwCl [(a 12, .inr (7, [.ref (a 48), .ref (a 49), .ref (a 50)])), (a 48, .inl (cI, 36, .inl f_1)), (a 49, .inl (cZ, 6, .inl y1))] H := hP
  have hD : va_D A [(a 12, .inr (7, [.ref (a 48), .ref (a 49), .ref (a 50)])), (a 48, .inl (cI, 36, .inl f_1)), (a 49, .inl (cZ, 6, .inl y1))] := hD
  refine lv_aload_n hx hb dX7_tell_12 rfl (lv_at hl 0 rfl) ?_
  refine va_get (D := D) (ci := 7) (v := .ref (a 49)) (C := RX7) (T := TX7) (N := 3) hx hb hts inT_X7 hown hK.1 hP 0 rfl rfl 1 (by decide) (hts _ k_472) (fun _ h9 => h9) rfl dX7_tell_13 ?_
  refine lv_iload_n hx hb dX7_tell_16 rfl (lv_at hl 1 rfl) ?_
  refine lv_iconst (v := 1) hx hb dX7_tell_17 (by decide) ?_
  refine st_z hx hb hK hP hD hS 2 rfl (lf_X7_tell_4 a y0 y1 x1 x2 n3 hx1 hx2 f_1) dX7_tell_18 (fun f_3 H locs hP hD hS => ?_)
  have hP : va_P D vwCl [(a 12, .inr (7, [.ref (a 48), .ref (a 49), .ref (a 50)])), (a 48, .inl (cI, 36, .inl f_1)), (a 49, .inl (cZ, 6, .inl f_3))] H := hP
  have hD : va_D A [(a 12, .inr (7, [.ref (a 48), .ref (a 49), .ref (a 50)])), (a 48, .inl (cI, 36, .inl f_1)), (a 49, .inl (cZ, 6, .inl f_3))] := hD
  exact W.vret hx hb hr (fun tt9 ht hW => ⟨⟨((f_1 : Nat → Int32), (f_3 : Nat → Int32)), rfl, trivial, ⟨by rw [ht]; exact hP, hD⟩⟩, hS.F ht⟩) hS.2.2 dX7_tell_19 hlocks

theorem lf_X7_told_3 (a : Nat → Nat) (y1 : Nat → Int32) (j1 : Nat) (w1 : Int32) (k4 : Nat) (hj4 : j1 ≤ 6) (hk4 : 6 < j1 + (k4 + 1)) (c_1 : 6 ≤ nI j1) : 6 ≤ j1 := by
  exact (nI_leI (a := 6) (b := j1) (by omega) (by omega)).mp c_1
theorem lf_X7_told_5 (a : Nat → Nat) (y1 : Nat → Int32) (j1 : Nat) (w1 : Int32) (k4 : Nat) (hj4 : j1 ≤ 6) (hk4 : 6 < j1 + (k4 + 1)) (c_1 : ¬ 6 ≤ nI j1) : j1 < 6 := by
  exact Nat.lt_of_not_le (fun q => c_1 ((nI_leI (a := 6) (b := j1) (by omega) (by omega)).mpr q))
theorem lf_X7_told_6 (a : Nat → Nat) (y1 : Nat → Int32) (j1 : Nat) (w1 : Int32) (k4 : Nat) (hj4 : j1 ≤ 6) (hk4 : 6 < j1 + (k4 + 1)) (c_1 : ¬ 6 ≤ nI j1) (n_4 : j1 < 6) : vp_in (nI j1) 6 := by
  first | exact vp_in_nI (by omega) (by decide) | (unfold vp_in; decide)
set_option maxHeartbeats 4000000 in
set_option maxRecDepth 100000 in
theorem c_X7_told (l : Launch) (D : va_G) (cI cB cZ cJ : ClassId) (tx : List (ClassId × FieldType)) (a : Nat → Nat) (y1 : Nat → Int32) : RdI l D cI cB cZ cJ tx yX7_told cX7_told 3 (some .int) 0 [.ref (a 12)] [(a 12, .inr (7, [.ref (a 48), .ref (a 49), .ref (a 50)])), (a 49, .inl (cZ, 6, .inl y1))] (fun r => True) := by
  refine rdi_of2 (by decide) (Nat.le_of_ble_eq_true rfl) ?_
  intro p e s m below meth c A ls H locs hC hK hP hD hA hS hl
  obtain ⟨hx, hb, hr, hml, hown, hts, hlocks, hin⟩ := hC
  have hown : s.vm.findClass RX7 = some m.cls := hown
  have hl : lv_has ls 3 [(0, .ref (a 12))] := hl
  refine lv_iconst (v := 0) hx hb dX7_told_0 (by decide) ?_
  refine lv_istore_n (lv' := [(1, .int 0), (0, .ref (a 12))]) hx hb dX7_told_1 rfl hl (by decide) rfl (fun ls hl => ?_)
  refine lv_iconst (v := 0) hx hb dX7_told_2 (by decide) ?_
  refine lv_istore_n (lv' := [(2, .int 0), (1, .int 0), (0, .ref (a 12))]) hx hb dX7_told_3 rfl hl (by decide) rfl (fun ls hl => ?_)
  have lp4 : ∀ (k4 : Nat) (j1 : Nat) (w1 : Int32) (H : Heap) (locs : List Loc) (ls : Array Slot), j1 ≤ 6 → 6 < j1 + k4 → va_P D vwCl [(a 12, .inr (7, [.ref (a 48), .ref (a 49), .ref (a 50)])), (a 49, .inl (cZ, 6, .inl y1))] H → va_S A s.heap H locs → lv_has ls 3 [(2, .int (nI j1)), (1, .int w1), (0, .ref (a 12))] → W p l e (rmX 0 0 0) s m ([.ref (a 12)] : List Value).toArray below meth c H locs 0 0 (MQ below (va_Qi (fun r (_ : Unit) => (fun r => True) r) (fun _ _ => True) A) ([.ref (a 12)] : List Value).toArray s 0 0 A) (F0 m 4 ls []) := by
    intro k4
    induction k4 with
    | zero =>
      intro j1 w1 H locs ls hj4 hk4  hP hS hl
      exact absurd hk4 (by omega)
    | succ k4 ih4 =>
      intro j1 w1 H locs ls hj4 hk4  hP hS hl
      refine lv_iload_n hx hb dX7_told_4 rfl (lv_at hl 0 rfl) ?_
      refine lv_bipush (v := 6) hx hb dX7_told_5 (by decide) ?_
      refine lv_icmp_ge (tgt := 33) hx hb dX7_told_7 (by decide) (fun c_1 => ?_) (fun c_1 => ?_)
      · have n_2 : 6 ≤ j1 := (lf_X7_told_3 a y1 j1 w1 k4 hj4 hk4 c_1)
        refine lv_iload_n hx hb dX7_told_33 rfl (lv_at hl 1 rfl) ?_
        exact W.iret (v := w1) hx hb hr (fun tt9 ht hW => ⟨⟨(w1 : Int32), (), rfl, trivial, trivial⟩, hS.F ht⟩) hS.2.2 dX7_told_34 hlocks
      · have n_4 : j1 < 6 := (lf_X7_told_5 a y1 j1 w1 k4 hj4 hk4 c_1)
        refine lv_iload_n hx hb dX7_told_10 rfl (lv_at hl 1 rfl) ?_
        refine lv_aload_n hx hb dX7_told_11 rfl (lv_at hl 2 rfl) ?_
        refine va_get (D := D) (ci := 7) (v := .ref (a 49)) (C := RX7) (T := TX7) (N := 3) hx hb hts inT_X7 hown hK.1 hP 0 rfl rfl 1 (by decide) (hts _ k_472) (fun _ h9 => h9) rfl dX7_told_12 ?_
        refine lv_iload_n hx hb dX7_told_15 rfl (lv_at hl 0 rfl) ?_
        refine ld_z hx hb hK hP 1 rfl (lf_X7_told_6 a y1 j1 w1 k4 hj4 hk4 c_1 n_4) dX7_told_16 (fun x_7 => ?_)
        refine lv_if_eq (tgt := 24) hx hb dX7_told_17 (by decide) (fun c_8 => ?_) (fun c_8 => ?_)
        · refine lv_iconst (v := 0) hx hb dX7_told_24 (by decide) ?_
          refine lv_iadd hx hb dX7_told_25 ?_
          refine lv_topi (fun x_9 ex_9 => ?_)
          refine lv_istore_n (lv' := [(1, .int x_9), (2, .int (nI j1)), (0, .ref (a 12))]) hx hb dX7_told_26 rfl hl (by decide) rfl (fun ls hl => ?_)
          refine lv_iinc (v := nI (j1 + 1)) (lv' := [(2, .int (nI (j1 + 1))), (1, .int x_9), (0, .ref (a 12))]) hx hb dX7_told_27 hl (k := 1) rfl (nI_1 j1) (by decide) rfl (fun ls hl => ?_)
          refine lv_goto (tgt := 4) hx hb dX7_told_30 (by decide) ?_
          exact ih4 (j1 + 1) x_9 H locs ls (by omega) (by omega)  (hP.sub [0, 1] rfl)  hS (lv_sub hl [0, 1, 2] rfl)
        · refine lv_iconst (v := 1) hx hb dX7_told_20 (by decide) ?_
          refine lv_goto (tgt := 25) hx hb dX7_told_21 (by decide) ?_
          refine lv_iadd hx hb dX7_told_25 ?_
          refine lv_topi (fun x_10 ex_10 => ?_)
          refine lv_istore_n (lv' := [(1, .int x_10), (2, .int (nI j1)), (0, .ref (a 12))]) hx hb dX7_told_26 rfl hl (by decide) rfl (fun ls hl => ?_)
          refine lv_iinc (v := nI (j1 + 1)) (lv' := [(2, .int (nI (j1 + 1))), (1, .int x_10), (0, .ref (a 12))]) hx hb dX7_told_27 hl (k := 1) rfl (nI_1 j1) (by decide) rfl (fun ls hl => ?_)
          refine lv_goto (tgt := 4) hx hb dX7_told_30 (by decide) ?_
          exact ih4 (j1 + 1) x_10 H locs ls (by omega) (by omega)  (hP.sub [0, 1] rfl)  hS (lv_sub hl [0, 1, 2] rfl)
  exact lp4 (6 + 1) 0 0 H locs ls (by omega) (by omega)  (hP.sub [0, 1] rfl)  hS (lv_sub hl [0, 1, 2] rfl)

theorem lf_X7_product_3 (a : Nat → Nat) (y0 : Nat → Int32) (y2 : Nat → Int32) (x1 : Nat) (hx1 : x1 < 6) (j1 : Nat) (w1 : Int64) (k5 : Nat) (hj5 : j1 ≤ 6) (hk5 : 6 < j1 + (k5 + 1)) (c_1 : 6 ≤ nI j1) : 6 ≤ j1 := by
  exact (nI_leI (a := 6) (b := j1) (by omega) (by omega)).mp c_1
theorem lf_X7_product_5 (a : Nat → Nat) (y0 : Nat → Int32) (y2 : Nat → Int32) (x1 : Nat) (hx1 : x1 < 6) (j1 : Nat) (w1 : Int64) (k5 : Nat) (hj5 : j1 ≤ 6) (hk5 : 6 < j1 + (k5 + 1)) (c_1 : ¬ 6 ≤ nI j1) : j1 < 6 := by
  exact Nat.lt_of_not_le (fun q => c_1 ((nI_leI (a := 6) (b := j1) (by omega) (by omega)).mpr q))
theorem lf_X7_product_6 (a : Nat → Nat) (y0 : Nat → Int32) (y2 : Nat → Int32) (x1 : Nat) (hx1 : x1 < 6) (j1 : Nat) (w1 : Int64) (k5 : Nat) (hj5 : j1 ≤ 6) (hk5 : 6 < j1 + (k5 + 1)) (c_1 : ¬ 6 ≤ nI j1) (n_4 : j1 < 6) : vp_in (nI ((x1 * 6) + j1)) 36 := by
  first | exact vp_in_nI (by omega) (by decide) | (unfold vp_in; decide)
theorem lf_X7_product_8 (a : Nat → Nat) (y0 : Nat → Int32) (y2 : Nat → Int32) (x1 : Nat) (hx1 : x1 < 6) (j1 : Nat) (w1 : Int64) (k5 : Nat) (hj5 : j1 ≤ 6) (hk5 : 6 < j1 + (k5 + 1)) (c_1 : ¬ 6 ≤ nI j1) (n_4 : j1 < 6) (x_7 : Int32) : vp_in (nI j1) 6 := by
  first | exact vp_in_nI (by omega) (by decide) | (unfold vp_in; decide)
theorem lf_X7_product_11 (a : Nat → Nat) (y0 : Nat → Int32) (y2 : Nat → Int32) (x1 : Nat) (hx1 : x1 < 6) (j1 : Nat) (w1 : Int64) (k5 : Nat) (hj5 : j1 ≤ 6) (hk5 : 6 < j1 + (k5 + 1)) (c_1 : ¬ 6 ≤ nI j1) (n_4 : j1 < 6) (x_7 : Int32) (x_9 : Int32) (c_10 : ¬ x_9 < 0) : vp_in (nI j1) 6 := by
  first | exact vp_in_nI (by omega) (by decide) | (unfold vp_in; decide)
set_option maxHeartbeats 4000000 in
set_option maxRecDepth 100000 in
theorem c_X7_product (l : Launch) (D : va_G) (cI cB cZ cJ : ClassId) (tx : List (ClassId × FieldType)) (a : Nat → Nat) (y0 : Nat → Int32) (y2 : Nat → Int32) (x1 : Nat) (hx1 : x1 < 6) : RdL l D cI cB cZ cJ tx yX7_product cX7_product 6 (some .long) 0 [.ref (a 12), .int (nI x1)] [(a 12, .inr (7, [.ref (a 48), .ref (a 49), .ref (a 50)])), (a 48, .inl (cI, 36, .inl y0)), (a 50, .inl (cI, 6, .inl y2))] (fun r => True) := by
  refine rdl_of2 (by decide) (Nat.le_of_ble_eq_true rfl) ?_
  intro p e s m below meth c A ls H locs hC hK hP hD hA hS hl
  obtain ⟨hx, hb, hr, hml, hown, hts, hlocks, hin⟩ := hC
  have hown : s.vm.findClass RX7 = some m.cls := hown
  have hl : lv_has ls 6 [(0, .ref (a 12)), (1, .int (nI x1))] := hl
  refine lv_lconst (v := 1) hx hb dX7_product_0 (by decide) ?_
  refine lv_lstore_n (lv' := [(2, .long 1), (0, .ref (a 12)), (1, .int (nI x1))]) hx hb dX7_product_1 rfl hl (by decide) rfl (fun ls hl => ?_)
  refine lv_iconst (v := 0) hx hb dX7_product_2 (by decide) ?_
  refine lv_istore (lv' := [(4, .int 0), (2, .long 1), (0, .ref (a 12)), (1, .int (nI x1))]) hx hb dX7_product_3 hl (by decide) rfl (fun ls hl => ?_)
  have lp5 : ∀ (k5 : Nat) (j1 : Nat) (w1 : Int64) (H : Heap) (locs : List Loc) (ls : Array Slot), j1 ≤ 6 → 6 < j1 + k5 → va_P D vwCl [(a 12, .inr (7, [.ref (a 48), .ref (a 49), .ref (a 50)])), (a 48, .inl (cI, 36, .inl y0)), (a 50, .inl (cI, 6, .inl y2))] H → va_S A s.heap H locs → lv_has ls 6 [(4, .int (nI j1)), (2, .long w1), (0, .ref (a 12)), (1, .int (nI x1))] → W p l e (rmX 0 0 0) s m ([.ref (a 12), .int (nI x1)] : List Value).toArray below meth c H locs 0 0 (MQ below (va_Ql (fun r (_ : Unit) => (fun r => True) r) (fun _ _ => True) A) ([.ref (a 12), .int (nI x1)] : List Value).toArray s 0 0 A) (F0 m 5 ls []) := by
    intro k5
    induction k5 with
    | zero =>
      intro j1 w1 H locs ls hj5 hk5  hP hS hl
      exact absurd hk5 (by omega)
    | succ k5 ih5 =>
      intro j1 w1 H locs ls hj5 hk5  hP hS hl
      refine lv_iload hx hb dX7_product_5 (lv_at hl 0 rfl) ?_
      refine lv_bipush (v := 6) hx hb dX7_product_7 (by decide) ?_
      refine lv_icmp_ge (tgt := 69) hx hb dX7_product_9 (by decide) (fun c_1 => ?_) (fun c_1 => ?_)
      · have n_2 : 6 ≤ j1 := (lf_X7_product_3 a y0 y2 x1 hx1 j1 w1 k5 hj5 hk5 c_1)
        refine lv_lload_n hx hb dX7_product_69 rfl (lv_at hl 1 rfl) ?_
        exact W.lret (v := w1) hx hb hr (fun tt9 ht hW => ⟨⟨(w1 : Int64), (), rfl, trivial, trivial⟩, hS.F ht⟩) hS.2.2 dX7_product_70 hlocks
      · have n_4 : j1 < 6 := (lf_X7_product_5 a y0 y2 x1 hx1 j1 w1 k5 hj5 hk5 c_1)
        refine lv_aload_n hx hb dX7_product_12 rfl (lv_at hl 2 rfl) ?_
        refine va_get (D := D) (ci := 7) (v := .ref (a 48)) (C := RX7) (T := TX7) (N := 3) hx hb hts inT_X7 hown hK.1 hP 0 rfl rfl 0 (by decide) (hts _ k_471) (fun _ h9 => h9) rfl dX7_product_13 ?_
        refine lv_iload_n hx hb dX7_product_16 rfl (lv_at hl 3 rfl) ?_
        refine lv_bipush (v := 6) hx hb dX7_product_17 (by decide) ?_
        refine lv_imul hx hb dX7_product_19 ?_
        refine lv_topv (y := nI (x1 * 6)) (pk_mul x1 6) ?_
        refine lv_iload hx hb dX7_product_20 (lv_at hl 0 rfl) ?_
        refine lv_iadd hx hb dX7_product_22 ?_
        refine lv_topv (y := nI ((x1 * 6) + j1)) (nI_add (x1 * 6) j1) ?_
        refine ld_i hx hb hK hP 1 rfl (lf_X7_product_6 a y0 y2 x1 hx1 j1 w1 k5 hj5 hk5 c_1 n_4) dX7_product_23 (fun x_7 => ?_)
        refine lv_istore (lv' := [(5, .int x_7), (4, .int (nI j1)), (2, .long w1), (0, .ref (a 12)), (1, .int (nI x1))]) hx hb dX7_product_24 hl (by decide) rfl (fun ls hl => ?_)
        refine lv_aload_n hx hb dX7_product_26 rfl (lv_at hl 3 rfl) ?_
        refine va_get (D := D) (ci := 7) (v := .ref (a 50)) (C := RX7) (T := TX7) (N := 3) hx hb hts inT_X7 hown hK.1 hP 0 rfl rfl 2 (by decide) (hts _ k_474) (fun _ h9 => h9) rfl dX7_product_27 ?_
        refine lv_iload hx hb dX7_product_30 (lv_at hl 1 rfl) ?_
        refine ld_i hx hb hK hP 2 rfl (lf_X7_product_8 a y0 y2 x1 hx1 j1 w1 k5 hj5 hk5 c_1 n_4 x_7) dX7_product_32 (fun x_9 => ?_)
        refine lv_if_lt (tgt := 63) hx hb dX7_product_33 (by decide) (fun c_10 => ?_) (fun c_10 => ?_)
        · refine lv_iinc (v := nI (j1 + 1)) (lv' := [(4, .int (nI (j1 + 1))), (5, .int x_7), (2, .long w1), (0, .ref (a 12)), (1, .int (nI x1))]) hx hb dX7_product_63 hl (k := 1) rfl (nI_1 j1) (by decide) rfl (fun ls hl => ?_)
          refine lv_goto (tgt := 5) hx hb dX7_product_66 (by decide) ?_
          exact ih5 (j1 + 1) w1 H locs ls (by omega) (by omega)  (hP.sub [0, 1, 2] rfl)  hS (lv_sub hl [0, 2, 3, 4] rfl)
        · refine lv_lload_n hx hb dX7_product_36 rfl (lv_at hl 2 rfl) ?_
          refine lv_aload_n hx hb dX7_product_37 rfl (lv_at hl 3 rfl) ?_
          refine va_get (D := D) (ci := 7) (v := .ref (a 50)) (C := RX7) (T := TX7) (N := 3) hx hb hts inT_X7 hown hK.1 hP 0 rfl rfl 2 (by decide) (hts _ k_474) (fun _ h9 => h9) rfl dX7_product_38 ?_
          refine lv_iload hx hb dX7_product_41 (lv_at hl 1 rfl) ?_
          refine ld_i hx hb hK hP 2 rfl (lf_X7_product_11 a y0 y2 x1 hx1 j1 w1 k5 hj5 hk5 c_1 n_4 x_7 x_9 c_10) dX7_product_43 (fun x_12 => ?_)
          refine lv_iconst (v := 1) hx hb dX7_product_44 (by decide) ?_
          refine lv_icmp_ne (tgt := 54) hx hb dX7_product_45 (by decide) (fun c_13 => ?_) (fun c_13 => ?_)
          · refine lv_sipush (v := 1000) hx hb dX7_product_54 (by decide) ?_
            refine lv_iload hx hb dX7_product_57 (lv_at hl 0 rfl) ?_
            refine lv_isub hx hb dX7_product_59 ?_
            refine lv_topi (fun x_14 ex_14 => ?_)
            refine lv_i2l (v := x_14.toInt64) hx hb dX7_product_60 rfl ?_
            refine lv_lmul hx hb dX7_product_61 ?_
            refine lv_topl (fun x_15 ex_15 => ?_)
            refine lv_lstore_n (lv' := [(2, .long x_15), (5, .int x_7), (4, .int (nI j1)), (0, .ref (a 12)), (1, .int (nI x1))]) hx hb dX7_product_62 rfl hl (by decide) rfl (fun ls hl => ?_)
            refine lv_iinc (v := nI (j1 + 1)) (lv' := [(4, .int (nI (j1 + 1))), (2, .long x_15), (5, .int x_7), (0, .ref (a 12)), (1, .int (nI x1))]) hx hb dX7_product_63 hl (k := 2) rfl (nI_1 j1) (by decide) rfl (fun ls hl => ?_)
            refine lv_goto (tgt := 5) hx hb dX7_product_66 (by decide) ?_
            exact ih5 (j1 + 1) x_15 H locs ls (by omega) (by omega)  (hP.sub [0, 1, 2] rfl)  hS (lv_sub hl [0, 1, 3, 4] rfl)
          · refine lv_iload hx hb dX7_product_48 (lv_at hl 0 rfl) ?_
            refine lv_i2l (v := x_7.toInt64) hx hb dX7_product_50 rfl ?_
            refine lv_goto (tgt := 61) hx hb dX7_product_51 (by decide) ?_
            refine lv_lmul hx hb dX7_product_61 ?_
            refine lv_topl (fun x_16 ex_16 => ?_)
            refine lv_lstore_n (lv' := [(2, .long x_16), (5, .int x_7), (4, .int (nI j1)), (0, .ref (a 12)), (1, .int (nI x1))]) hx hb dX7_product_62 rfl hl (by decide) rfl (fun ls hl => ?_)
            refine lv_iinc (v := nI (j1 + 1)) (lv' := [(4, .int (nI (j1 + 1))), (2, .long x_16), (5, .int x_7), (0, .ref (a 12)), (1, .int (nI x1))]) hx hb dX7_product_63 hl (k := 2) rfl (nI_1 j1) (by decide) rfl (fun ls hl => ?_)
            refine lv_goto (tgt := 5) hx hb dX7_product_66 (by decide) ?_
            exact ih5 (j1 + 1) x_16 H locs ls (by omega) (by omega)  (hP.sub [0, 1, 2] rfl)  hS (lv_sub hl [0, 1, 3, 4] rfl)
  exact lp5 (6 + 1) 0 1 H locs ls (by omega) (by omega)  (hP.sub [0, 1, 2] rfl)  hS (lv_sub hl [0, 1, 2, 3] rfl)

theorem lf_X7_together_3 (a : Nat → Nat) (y0 : Nat → Int32) (y1 : Nat → Int32) (y2 : Nat → Int32) (j1 : Nat) (w1 : Int64) (k4 : Nat) (hj4 : j1 ≤ 6) (hk4 : 6 < j1 + (k4 + 1)) (c_1 : 6 ≤ nI j1) : 6 ≤ j1 := by
  exact (nI_leI (a := 6) (b := j1) (by omega) (by omega)).mp c_1
theorem lf_X7_together_5 (a : Nat → Nat) (y0 : Nat → Int32) (y1 : Nat → Int32) (y2 : Nat → Int32) (j1 : Nat) (w1 : Int64) (k4 : Nat) (hj4 : j1 ≤ 6) (hk4 : 6 < j1 + (k4 + 1)) (c_1 : ¬ 6 ≤ nI j1) : j1 < 6 := by
  exact Nat.lt_of_not_le (fun q => c_1 ((nI_leI (a := 6) (b := j1) (by omega) (by omega)).mpr q))
theorem lf_X7_together_6 (a : Nat → Nat) (y0 : Nat → Int32) (y1 : Nat → Int32) (y2 : Nat → Int32) (j1 : Nat) (w1 : Int64) (k4 : Nat) (hj4 : j1 ≤ 6) (hk4 : 6 < j1 + (k4 + 1)) (c_1 : ¬ 6 ≤ nI j1) (n_4 : j1 < 6) : vp_in (nI j1) 6 := by
  first | exact vp_in_nI (by omega) (by decide) | (unfold vp_in; decide)
theorem lf_X7_together_10 (a : Nat → Nat) (y0 : Nat → Int32) (y1 : Nat → Int32) (y2 : Nat → Int32) (j1 : Nat) (w1 : Int64) (k4 : Nat) (hj4 : j1 ≤ 6) (hk4 : 6 < j1 + (k4 + 1)) (c_1 : ¬ 6 ≤ nI j1) (n_4 : j1 < 6) (x_7 : Int32) (c_8 : ¬ x_7 = 0) : j1 < 6 := by
  first | assumption | omega | decide
set_option maxHeartbeats 4000000 in
set_option maxRecDepth 100000 in
theorem c_X7_together (l : Launch) (D : va_G) (cI cB cZ cJ : ClassId) (tx : List (ClassId × FieldType)) (a : Nat → Nat) (y0 : Nat → Int32) (y1 : Nat → Int32) (y2 : Nat → Int32) : RdL l D cI cB cZ cJ tx yX7_together cX7_together 4 (some .long) 1 [.ref (a 12)] [(a 12, .inr (7, [.ref (a 48), .ref (a 49), .ref (a 50)])), (a 48, .inl (cI, 36, .inl y0)), (a 49, .inl (cZ, 6, .inl y1)), (a 50, .inl (cI, 6, .inl y2))] (fun r => True) := by
  refine rdl_of2 (by decide) (Nat.le_of_ble_eq_true rfl) ?_
  intro p e s m below meth c A ls H locs hC hK hP hD hA hS hl
  obtain ⟨hx, hb, hr, hml, hown, hts, hlocks, hin⟩ := hC
  have hown : s.vm.findClass RX7 = some m.cls := hown
  have hl : lv_has ls 4 [(0, .ref (a 12))] := hl
  refine lv_lconst (v := 0) hx hb dX7_together_0 (by decide) ?_
  refine lv_lstore_n (lv' := [(1, .long 0), (0, .ref (a 12))]) hx hb dX7_together_1 rfl hl (by decide) rfl (fun ls hl => ?_)
  refine lv_iconst (v := 0) hx hb dX7_together_2 (by decide) ?_
  refine lv_istore_n (lv' := [(3, .int 0), (1, .long 0), (0, .ref (a 12))]) hx hb dX7_together_3 rfl hl (by decide) rfl (fun ls hl => ?_)
  have lp4 : ∀ (k4 : Nat) (j1 : Nat) (w1 : Int64) (H : Heap) (locs : List Loc) (ls : Array Slot), j1 ≤ 6 → 6 < j1 + k4 → va_P D vwCl [(a 12, .inr (7, [.ref (a 48), .ref (a 49), .ref (a 50)])), (a 48, .inl (cI, 36, .inl y0)), (a 49, .inl (cZ, 6, .inl y1)), (a 50, .inl (cI, 6, .inl y2))] H → va_S A s.heap H locs → lv_has ls 4 [(3, .int (nI j1)), (1, .long w1), (0, .ref (a 12))] → W p l e (rmX 1 0 0) s m ([.ref (a 12)] : List Value).toArray below meth c H locs 0 0 (MQ below (va_Ql (fun r (_ : Unit) => (fun r => True) r) (fun _ _ => True) A) ([.ref (a 12)] : List Value).toArray s 0 0 A) (F0 m 4 ls []) := by
    intro k4
    induction k4 with
    | zero =>
      intro j1 w1 H locs ls hj4 hk4  hP hS hl
      exact absurd hk4 (by omega)
    | succ k4 ih4 =>
      intro j1 w1 H locs ls hj4 hk4  hP hS hl
      refine lv_iload_n hx hb dX7_together_4 rfl (lv_at hl 0 rfl) ?_
      refine lv_bipush (v := 6) hx hb dX7_together_5 (by decide) ?_
      refine lv_icmp_ge (tgt := 37) hx hb dX7_together_7 (by decide) (fun c_1 => ?_) (fun c_1 => ?_)
      · have n_2 : 6 ≤ j1 := (lf_X7_together_3 a y0 y1 y2 j1 w1 k4 hj4 hk4 c_1)
        refine lv_lload_n hx hb dX7_together_37 rfl (lv_at hl 1 rfl) ?_
        exact W.lret (v := w1) hx hb hr (fun tt9 ht hW => ⟨⟨(w1 : Int64), (), rfl, trivial, trivial⟩, hS.F ht⟩) hS.2.2 dX7_together_38 hlocks
      · have n_4 : j1 < 6 := (lf_X7_together_5 a y0 y1 y2 j1 w1 k4 hj4 hk4 c_1)
        refine lv_lload_n hx hb dX7_together_10 rfl (lv_at hl 1 rfl) ?_
        refine lv_aload_n hx hb dX7_together_11 rfl (lv_at hl 2 rfl) ?_
        refine va_get (D := D) (ci := 7) (v := .ref (a 49)) (C := RX7) (T := TX7) (N := 3) hx hb hts inT_X7 hown hK.1 hP 0 rfl rfl 1 (by decide) (hts _ k_472) (fun _ h9 => h9) rfl dX7_together_12 ?_
        refine lv_iload_n hx hb dX7_together_15 rfl (lv_at hl 0 rfl) ?_
        refine ld_z hx hb hK hP 2 rfl (lf_X7_together_6 a y0 y1 y2 j1 w1 k4 hj4 hk4 c_1 n_4) dX7_together_16 (fun x_7 => ?_)
        refine lv_if_eq (tgt := 28) hx hb dX7_together_17 (by decide) (fun c_8 => ?_) (fun c_8 => ?_)
        · refine lv_lconst (v := 0) hx hb dX7_together_28 (by decide) ?_
          refine lv_ladd hx hb dX7_together_29 ?_
          refine lv_topl (fun x_9 ex_9 => ?_)
          refine lv_lstore_n (lv' := [(1, .long x_9), (3, .int (nI j1)), (0, .ref (a 12))]) hx hb dX7_together_30 rfl hl (by decide) rfl (fun ls hl => ?_)
          refine lv_iinc (v := nI (j1 + 1)) (lv' := [(3, .int (nI (j1 + 1))), (1, .long x_9), (0, .ref (a 12))]) hx hb dX7_together_31 hl (k := 1) rfl (nI_1 j1) (by decide) rfl (fun ls hl => ?_)
          refine lv_goto (tgt := 4) hx hb dX7_together_34 (by decide) ?_
          exact ih4 (j1 + 1) x_9 H locs ls (by omega) (by omega)  (hP.sub [0, 1, 2, 3] rfl)  hS (lv_sub hl [0, 1, 2] rfl)
        · refine lv_aload_n hx hb dX7_together_20 rfl (lv_at hl 2 rfl) ?_
          refine lv_iload_n hx hb dX7_together_21 rfl (lv_at hl 0 rfl) ?_
          refine eRl (va_runV (As := [.int (nI j1)]) (rest := [.long w1]) ⟨hx, hb, hml, hown, hts⟩ (c_X7_product l D cI cB cZ cJ tx a y0 y2 j1 (lf_X7_together_10 a y0 y1 y2 j1 w1 k4 hj4 hk4 c_1 n_4 x_7 c_8) H.size) (zV hts k_1209 v_X7_product ⟨Nat.le_of_ble_eq_true rfl, Nat.le_of_ble_eq_true rfl⟩) (pV (pxS hK hP hD [0, 1, 3] (by decide) rfl) hK hP 0 rfl rfl) rfl rfl hl.1 rfl (lv_room (Nat.le_of_ble_eq_true rfl)) dX7_together_22 ⟨Nat.le_of_ble_eq_true rfl, Nat.le_of_ble_eq_true rfl⟩) hP hS hA (fun r_11 H locs wr_11 hP hS => ?_)
          refine lv_goto (tgt := 29) hx hb dX7_together_25 (by decide) ?_
          refine lv_ladd hx hb dX7_together_29 ?_
          refine lv_topl (fun x_12 ex_12 => ?_)
          refine lv_lstore_n (lv' := [(1, .long x_12), (3, .int (nI j1)), (0, .ref (a 12))]) hx hb dX7_together_30 rfl hl (by decide) rfl (fun ls hl => ?_)
          refine lv_iinc (v := nI (j1 + 1)) (lv' := [(3, .int (nI (j1 + 1))), (1, .long x_12), (0, .ref (a 12))]) hx hb dX7_together_31 hl (k := 1) rfl (nI_1 j1) (by decide) rfl (fun ls hl => ?_)
          refine lv_goto (tgt := 4) hx hb dX7_together_34 (by decide) ?_
          exact ih4 (j1 + 1) x_12 H locs ls (by omega) (by omega)  (hP.sub [0, 1, 2, 3] rfl)  hS (lv_sub hl [0, 1, 2] rfl)
  exact lp4 (6 + 1) 0 0 H locs ls (by omega) (by omega)  (hP.sub [0, 1, 2, 3] rfl)  hS (lv_sub hl [0, 1, 2] rfl)

theorem lf_X7_counts_1 (a : Nat → Nat) (y0 : Nat → Int32) (y1 : Nat → Int32) (y2 : Nat → Int32) (x1 : Nat) (hx1 : x1 < 6) : vp_in (nI x1) 6 := by
  first | exact vp_in_nI (by omega) (by decide) | (unfold vp_in; decide)
theorem lf_X7_counts_4 (a : Nat → Nat) (y0 : Nat → Int32) (y1 : Nat → Int32) (y2 : Nat → Int32) (x1 : Nat) (hx1 : x1 < 6) (x_2 : Int32) (c_3 : ¬ x_2 = 0) : x1 < 6 := by
  first | assumption | omega | decide
set_option maxHeartbeats 4000000 in
set_option maxRecDepth 100000 in
theorem c_X7_counts (l : Launch) (D : va_G) (cI cB cZ cJ : ClassId) (tx : List (ClassId × FieldType)) (a : Nat → Nat) (y0 : Nat → Int32) (y1 : Nat → Int32) (y2 : Nat → Int32) (x1 : Nat) (hx1 : x1 < 6) : RdI l D cI cB cZ cJ tx yX7_counts cX7_counts 2 (some .boolean) 1 [.ref (a 12), .int (nI x1)] [(a 12, .inr (7, [.ref (a 48), .ref (a 49), .ref (a 50)])), (a 48, .inl (cI, 36, .inl y0)), (a 49, .inl (cZ, 6, .inl y1)), (a 50, .inl (cI, 6, .inl y2))] (fun r => True) := by
  refine rdi_of2 (by decide) (Nat.le_of_ble_eq_true rfl) ?_
  intro p e s m below meth c A ls H locs hC hK hP hD hA hS hl
  obtain ⟨hx, hb, hr, hml, hown, hts, hlocks, hin⟩ := hC
  have hown : s.vm.findClass RX7 = some m.cls := hown
  have hl : lv_has ls 2 [(0, .ref (a 12)), (1, .int (nI x1))] := hl
  refine lv_aload_n hx hb dX7_counts_0 rfl (lv_at hl 0 rfl) ?_
  refine va_get (D := D) (ci := 7) (v := .ref (a 49)) (C := RX7) (T := TX7) (N := 3) hx hb hts inT_X7 hown hK.1 hP 0 rfl rfl 1 (by decide) (hts _ k_472) (fun _ h9 => h9) rfl dX7_counts_1 ?_
  refine lv_iload_n hx hb dX7_counts_4 rfl (lv_at hl 1 rfl) ?_
  refine ld_z hx hb hK hP 2 rfl (lf_X7_counts_1 a y0 y1 y2 x1 hx1) dX7_counts_5 (fun x_2 => ?_)
  refine lv_if_eq (tgt := 23) hx hb dX7_counts_6 (by decide) (fun c_3 => ?_) (fun c_3 => ?_)
  · refine lv_iconst (v := 0) hx hb dX7_counts_23 (by decide) ?_
    exact W.zret (v := 0) hx hb hr (by decide) (fun tt9 ht hW => ⟨⟨(0 : Int32), (), rfl, trivial, trivial⟩, hS.F ht⟩) hS.2.2 dX7_counts_24 hlocks
  · refine lv_aload_n hx hb dX7_counts_9 rfl (lv_at hl 0 rfl) ?_
    refine lv_iload_n hx hb dX7_counts_10 rfl (lv_at hl 1 rfl) ?_
    refine eRl (va_runV (As := [.int (nI x1)]) (rest := []) ⟨hx, hb, hml, hown, hts⟩ (c_X7_product l D cI cB cZ cJ tx a y0 y2 x1 (lf_X7_counts_4 a y0 y1 y2 x1 hx1 x_2 c_3) H.size) (zV hts k_1209 v_X7_product ⟨Nat.le_of_ble_eq_true rfl, Nat.le_of_ble_eq_true rfl⟩) (pV (pxS hK hP hD [0, 1, 3] (by decide) rfl) hK hP 0 rfl rfl) rfl rfl hl.1 rfl (lv_room (Nat.le_of_ble_eq_true rfl)) dX7_counts_11 ⟨Nat.le_of_ble_eq_true rfl, Nat.le_of_ble_eq_true rfl⟩) hP hS hA (fun r_5 H locs wr_5 hP hS => ?_)
    refine lv_lconst (v := 0) hx hb dX7_counts_14 (by decide) ?_
    refine W.lcmp hx hb dX7_counts_15 ?_
    refine lv_if_eq (tgt := 23) hx hb dX7_counts_16 (by decide) (fun c_6 => ?_) (fun c_6 => ?_)
    · refine lv_iconst (v := 0) hx hb dX7_counts_23 (by decide) ?_
      exact W.zret (v := 0) hx hb hr (by decide) (fun tt9 ht hW => ⟨⟨(0 : Int32), (), rfl, trivial, trivial⟩, hS.F ht⟩) hS.2.2 dX7_counts_24 hlocks
    · refine lv_iconst (v := 1) hx hb dX7_counts_19 (by decide) ?_
      refine lv_goto (tgt := 24) hx hb dX7_counts_20 (by decide) ?_
      exact W.zret (v := 1) hx hb hr (by decide) (fun tt9 ht hW => ⟨⟨(1 : Int32), (), rfl, trivial, trivial⟩, hS.F ht⟩) hS.2.2 dX7_counts_24 hlocks

theorem lf_X7_parted_3 (a : Nat → Nat) (y0 : Nat → Int32) (y1 : Nat → Int32) (y2 : Nat → Int32) (x1 : Nat) (hx1 : x1 < 6) (j1 : Nat) (w1 : Int32) (k4 : Nat) (hj4 : j1 ≤ 6) (hk4 : 6 < j1 + (k4 + 1)) (c_1 : 6 ≤ nI j1) : 6 ≤ j1 := by
  exact (nI_leI (a := 6) (b := j1) (by omega) (by omega)).mp c_1
theorem lf_X7_parted_5 (a : Nat → Nat) (y0 : Nat → Int32) (y1 : Nat → Int32) (y2 : Nat → Int32) (x1 : Nat) (hx1 : x1 < 6) (j1 : Nat) (w1 : Int32) (k4 : Nat) (hj4 : j1 ≤ 6) (hk4 : 6 < j1 + (k4 + 1)) (c_1 : ¬ 6 ≤ nI j1) : j1 < 6 := by
  exact Nat.lt_of_not_le (fun q => c_1 ((nI_leI (a := 6) (b := j1) (by omega) (by omega)).mpr q))
theorem lf_X7_parted_8 (a : Nat → Nat) (y0 : Nat → Int32) (y1 : Nat → Int32) (y2 : Nat → Int32) (x1 : Nat) (hx1 : x1 < 6) (j1 : Nat) (w1 : Int32) (k4 : Nat) (hj4 : j1 ≤ 6) (hk4 : 6 < j1 + (k4 + 1)) (c_1 : ¬ 6 ≤ nI j1) (n_4 : j1 < 6) (j2 : Nat) (w2 : Int32) (k13 : Nat) (hj13 : j2 ≤ j1) (hk13 : j1 < j2 + (k13 + 1)) (c_6 : nI j1 ≤ nI j2) : j1 ≤ j2 := by
  exact (nI_leI (a := j1) (b := j2) (by omega) (by omega)).mp c_6
theorem lf_X7_parted_10 (a : Nat → Nat) (y0 : Nat → Int32) (y1 : Nat → Int32) (y2 : Nat → Int32) (x1 : Nat) (hx1 : x1 < 6) (j1 : Nat) (w1 : Int32) (k4 : Nat) (hj4 : j1 ≤ 6) (hk4 : 6 < j1 + (k4 + 1)) (c_1 : ¬ 6 ≤ nI j1) (n_4 : j1 < 6) (j2 : Nat) (w2 : Int32) (k13 : Nat) (hj13 : j2 ≤ j1) (hk13 : j1 < j2 + (k13 + 1)) (c_6 : ¬ nI j1 ≤ nI j2) : j2 < j1 := by
  exact Nat.lt_of_not_le (fun q => c_6 ((nI_leI (a := j1) (b := j2) (by omega) (by omega)).mpr q))
theorem lf_X7_parted_11 (a : Nat → Nat) (y0 : Nat → Int32) (y1 : Nat → Int32) (y2 : Nat → Int32) (x1 : Nat) (hx1 : x1 < 6) (j1 : Nat) (w1 : Int32) (k4 : Nat) (hj4 : j1 ≤ 6) (hk4 : 6 < j1 + (k4 + 1)) (c_1 : ¬ 6 ≤ nI j1) (n_4 : j1 < 6) (j2 : Nat) (w2 : Int32) (k13 : Nat) (hj13 : j2 ≤ j1) (hk13 : j1 < j2 + (k13 + 1)) (c_6 : ¬ nI j1 ≤ nI j2) (n_9 : j2 < j1) : j1 < 6 := by
  first | assumption | omega | decide
theorem lf_X7_parted_14 (a : Nat → Nat) (y0 : Nat → Int32) (y1 : Nat → Int32) (y2 : Nat → Int32) (x1 : Nat) (hx1 : x1 < 6) (j1 : Nat) (w1 : Int32) (k4 : Nat) (hj4 : j1 ≤ 6) (hk4 : 6 < j1 + (k4 + 1)) (c_1 : ¬ 6 ≤ nI j1) (n_4 : j1 < 6) (j2 : Nat) (w2 : Int32) (k13 : Nat) (hj13 : j2 ≤ j1) (hk13 : j1 < j2 + (k13 + 1)) (c_6 : ¬ nI j1 ≤ nI j2) (n_9 : j2 < j1) (r_12 : Int32) (c_13 : ¬ r_12 = 0) : j2 < 6 := by
  first | assumption | omega | decide
theorem lf_X7_parted_17 (a : Nat → Nat) (y0 : Nat → Int32) (y1 : Nat → Int32) (y2 : Nat → Int32) (x1 : Nat) (hx1 : x1 < 6) (j1 : Nat) (w1 : Int32) (k4 : Nat) (hj4 : j1 ≤ 6) (hk4 : 6 < j1 + (k4 + 1)) (c_1 : ¬ 6 ≤ nI j1) (n_4 : j1 < 6) (j2 : Nat) (w2 : Int32) (k13 : Nat) (hj13 : j2 ≤ j1) (hk13 : j1 < j2 + (k13 + 1)) (c_6 : ¬ nI j1 ≤ nI j2) (n_9 : j2 < j1) (r_12 : Int32) (c_13 : ¬ r_12 = 0) (r_15 : Int32) (c_16 : ¬ r_15 = 0) : vp_in (nI ((j1 * 6) + x1)) 36 := by
  first | exact vp_in_nI (by omega) (by decide) | (unfold vp_in; decide)
theorem lf_X7_parted_19 (a : Nat → Nat) (y0 : Nat → Int32) (y1 : Nat → Int32) (y2 : Nat → Int32) (x1 : Nat) (hx1 : x1 < 6) (j1 : Nat) (w1 : Int32) (k4 : Nat) (hj4 : j1 ≤ 6) (hk4 : 6 < j1 + (k4 + 1)) (c_1 : ¬ 6 ≤ nI j1) (n_4 : j1 < 6) (j2 : Nat) (w2 : Int32) (k13 : Nat) (hj13 : j2 ≤ j1) (hk13 : j1 < j2 + (k13 + 1)) (c_6 : ¬ nI j1 ≤ nI j2) (n_9 : j2 < j1) (r_12 : Int32) (c_13 : ¬ r_12 = 0) (r_15 : Int32) (c_16 : ¬ r_15 = 0) (x_18 : Int32) : vp_in (nI ((j2 * 6) + x1)) 36 := by
  first | exact vp_in_nI (by omega) (by decide) | (unfold vp_in; decide)
set_option maxHeartbeats 4000000 in
set_option maxRecDepth 100000 in
theorem c_X7_parted (l : Launch) (D : va_G) (cI cB cZ cJ : ClassId) (tx : List (ClassId × FieldType)) (a : Nat → Nat) (y0 : Nat → Int32) (y1 : Nat → Int32) (y2 : Nat → Int32) (x1 : Nat) (hx1 : x1 < 6) : RdI l D cI cB cZ cJ tx yX7_parted cX7_parted 5 (some .int) 2 [.ref (a 12), .int (nI x1)] [(a 12, .inr (7, [.ref (a 48), .ref (a 49), .ref (a 50)])), (a 48, .inl (cI, 36, .inl y0)), (a 49, .inl (cZ, 6, .inl y1)), (a 50, .inl (cI, 6, .inl y2))] (fun r => True) := by
  refine rdi_of2 (by decide) (Nat.le_of_ble_eq_true rfl) ?_
  intro p e s m below meth c A ls H locs hC hK hP hD hA hS hl
  obtain ⟨hx, hb, hr, hml, hown, hts, hlocks, hin⟩ := hC
  have hown : s.vm.findClass RX7 = some m.cls := hown
  have hl : lv_has ls 5 [(0, .ref (a 12)), (1, .int (nI x1))] := hl
  refine lv_iconst (v := 0) hx hb dX7_parted_0 (by decide) ?_
  refine lv_istore_n (lv' := [(2, .int 0), (0, .ref (a 12)), (1, .int (nI x1))]) hx hb dX7_parted_1 rfl hl (by decide) rfl (fun ls hl => ?_)
  refine lv_iconst (v := 0) hx hb dX7_parted_2 (by decide) ?_
  refine lv_istore_n (lv' := [(3, .int 0), (2, .int 0), (0, .ref (a 12)), (1, .int (nI x1))]) hx hb dX7_parted_3 rfl hl (by decide) rfl (fun ls hl => ?_)
  have lp4 : ∀ (k4 : Nat) (j1 : Nat) (w1 : Int32) (H : Heap) (locs : List Loc) (ls : Array Slot), j1 ≤ 6 → 6 < j1 + k4 → va_P D vwCl [(a 12, .inr (7, [.ref (a 48), .ref (a 49), .ref (a 50)])), (a 48, .inl (cI, 36, .inl y0)), (a 49, .inl (cZ, 6, .inl y1)), (a 50, .inl (cI, 6, .inl y2))] H → va_S A s.heap H locs → lv_has ls 5 [(3, .int (nI j1)), (2, .int w1), (0, .ref (a 12)), (1, .int (nI x1))] → W p l e (rmX 2 0 0) s m ([.ref (a 12), .int (nI x1)] : List Value).toArray below meth c H locs 0 0 (MQ below (va_Qi (fun r (_ : Unit) => (fun r => True) r) (fun _ _ => True) A) ([.ref (a 12), .int (nI x1)] : List Value).toArray s 0 0 A) (F0 m 4 ls []) := by
    intro k4
    induction k4 with
    | zero =>
      intro j1 w1 H locs ls hj4 hk4  hP hS hl
      exact absurd hk4 (by omega)
    | succ k4 ih4 =>
      intro j1 w1 H locs ls hj4 hk4  hP hS hl
      refine lv_iload_n hx hb dX7_parted_4 rfl (lv_at hl 0 rfl) ?_
      refine lv_bipush (v := 6) hx hb dX7_parted_5 (by decide) ?_
      refine lv_icmp_ge (tgt := 78) hx hb dX7_parted_7 (by decide) (fun c_1 => ?_) (fun c_1 => ?_)
      · have n_2 : 6 ≤ j1 := (lf_X7_parted_3 a y0 y1 y2 x1 hx1 j1 w1 k4 hj4 hk4 c_1)
        refine lv_iload_n hx hb dX7_parted_78 rfl (lv_at hl 1 rfl) ?_
        exact W.iret (v := w1) hx hb hr (fun tt9 ht hW => ⟨⟨(w1 : Int32), (), rfl, trivial, trivial⟩, hS.F ht⟩) hS.2.2 dX7_parted_79 hlocks
      · have n_4 : j1 < 6 := (lf_X7_parted_5 a y0 y1 y2 x1 hx1 j1 w1 k4 hj4 hk4 c_1)
        refine lv_iconst (v := 0) hx hb dX7_parted_10 (by decide) ?_
        refine lv_istore (lv' := [(4, .int 0), (3, .int (nI j1)), (2, .int w1), (0, .ref (a 12)), (1, .int (nI x1))]) hx hb dX7_parted_11 hl (by decide) rfl (fun ls hl => ?_)
        have lp13 : ∀ (k13 : Nat) (j2 : Nat) (w2 : Int32) (H : Heap) (locs : List Loc) (ls : Array Slot), j2 ≤ j1 → j1 < j2 + k13 → va_P D vwCl [(a 12, .inr (7, [.ref (a 48), .ref (a 49), .ref (a 50)])), (a 48, .inl (cI, 36, .inl y0)), (a 49, .inl (cZ, 6, .inl y1)), (a 50, .inl (cI, 6, .inl y2))] H → va_S A s.heap H locs → lv_has ls 5 [(4, .int (nI j2)), (3, .int (nI j1)), (2, .int w2), (0, .ref (a 12)), (1, .int (nI x1))] → W p l e (rmX 2 0 0) s m ([.ref (a 12), .int (nI x1)] : List Value).toArray below meth c H locs 0 0 (MQ below (va_Qi (fun r (_ : Unit) => (fun r => True) r) (fun _ _ => True) A) ([.ref (a 12), .int (nI x1)] : List Value).toArray s 0 0 A) (F0 m 13 ls []) := by
          intro k13
          induction k13 with
          | zero =>
            intro j2 w2 H locs ls hj13 hk13  hP hS hl
            exact absurd hk13 (by omega)
          | succ k13 ih13 =>
            intro j2 w2 H locs ls hj13 hk13  hP hS hl
            refine lv_iload hx hb dX7_parted_13 (lv_at hl 0 rfl) ?_
            refine lv_iload_n hx hb dX7_parted_15 rfl (lv_at hl 1 rfl) ?_
            refine lv_icmp_ge (tgt := 72) hx hb dX7_parted_16 (by decide) (fun c_6 => ?_) (fun c_6 => ?_)
            · have n_7 : j1 ≤ j2 := (lf_X7_parted_8 a y0 y1 y2 x1 hx1 j1 w1 k4 hj4 hk4 c_1 n_4 j2 w2 k13 hj13 hk13 c_6)
              refine lv_iinc (v := nI (j1 + 1)) (lv' := [(3, .int (nI (j1 + 1))), (4, .int (nI j2)), (2, .int w2), (0, .ref (a 12)), (1, .int (nI x1))]) hx hb dX7_parted_72 hl (k := 1) rfl (nI_1 j1) (by decide) rfl (fun ls hl => ?_)
              refine lv_goto (tgt := 4) hx hb dX7_parted_75 (by decide) ?_
              exact ih4 (j1 + 1) w2 H locs ls (by omega) (by omega)  (hP.sub [0, 1, 2, 3] rfl)  hS (lv_sub hl [0, 2, 3, 4] rfl)
            · have n_9 : j2 < j1 := (lf_X7_parted_10 a y0 y1 y2 x1 hx1 j1 w1 k4 hj4 hk4 c_1 n_4 j2 w2 k13 hj13 hk13 c_6)
              refine lv_aload_n hx hb dX7_parted_19 rfl (lv_at hl 3 rfl) ?_
              refine lv_iload_n hx hb dX7_parted_20 rfl (lv_at hl 1 rfl) ?_
              refine eRi (va_runV (As := [.int (nI j1)]) (rest := []) ⟨hx, hb, hml, hown, hts⟩ (c_X7_counts l D cI cB cZ cJ tx a y0 y1 y2 j1 (lf_X7_parted_11 a y0 y1 y2 x1 hx1 j1 w1 k4 hj4 hk4 c_1 n_4 j2 w2 k13 hj13 hk13 c_6 n_9) H.size) (zV hts k_1230 v_X7_counts ⟨Nat.le_of_ble_eq_true rfl, Nat.le_of_ble_eq_true rfl⟩) (pV (pxS hK hP hD [0, 1, 2, 3] (by decide) rfl) hK hP 0 rfl rfl) rfl rfl hl.1 rfl (lv_room (Nat.le_of_ble_eq_true rfl)) dX7_parted_21 ⟨Nat.le_of_ble_eq_true rfl, Nat.le_of_ble_eq_true rfl⟩) hP hS hA (fun r_12 H locs wr_12 hP hS => ?_)
              refine lv_if_eq (tgt := 66) hx hb dX7_parted_24 (by decide) (fun c_13 => ?_) (fun c_13 => ?_)
              · refine lv_iinc (v := nI (j2 + 1)) (lv' := [(4, .int (nI (j2 + 1))), (3, .int (nI j1)), (2, .int w2), (0, .ref (a 12)), (1, .int (nI x1))]) hx hb dX7_parted_66 hl (k := 0) rfl (nI_1 j2) (by decide) rfl (fun ls hl => ?_)
                refine lv_goto (tgt := 13) hx hb dX7_parted_69 (by decide) ?_
                exact ih13 (j2 + 1) w2 H locs ls (by omega) (by omega)  (hP.sub [0, 1, 2, 3] rfl)  hS (lv_sub hl [0, 1, 2, 3, 4] rfl)
              · refine lv_aload_n hx hb dX7_parted_27 rfl (lv_at hl 3 rfl) ?_
                refine lv_iload hx hb dX7_parted_28 (lv_at hl 0 rfl) ?_
                refine eRi (va_runV (As := [.int (nI j2)]) (rest := []) ⟨hx, hb, hml, hown, hts⟩ (c_X7_counts l D cI cB cZ cJ tx a y0 y1 y2 j2 (lf_X7_parted_14 a y0 y1 y2 x1 hx1 j1 w1 k4 hj4 hk4 c_1 n_4 j2 w2 k13 hj13 hk13 c_6 n_9 r_12 c_13) H.size) (zV hts k_1230 v_X7_counts ⟨Nat.le_of_ble_eq_true rfl, Nat.le_of_ble_eq_true rfl⟩) (pV (pxS hK hP hD [0, 1, 2, 3] (by decide) rfl) hK hP 0 rfl rfl) rfl rfl hl.1 rfl (lv_room (Nat.le_of_ble_eq_true rfl)) dX7_parted_30 ⟨Nat.le_of_ble_eq_true rfl, Nat.le_of_ble_eq_true rfl⟩) hP hS hA (fun r_15 H locs wr_15 hP hS => ?_)
                refine lv_if_eq (tgt := 66) hx hb dX7_parted_33 (by decide) (fun c_16 => ?_) (fun c_16 => ?_)
                · refine lv_iinc (v := nI (j2 + 1)) (lv' := [(4, .int (nI (j2 + 1))), (3, .int (nI j1)), (2, .int w2), (0, .ref (a 12)), (1, .int (nI x1))]) hx hb dX7_parted_66 hl (k := 0) rfl (nI_1 j2) (by decide) rfl (fun ls hl => ?_)
                  refine lv_goto (tgt := 13) hx hb dX7_parted_69 (by decide) ?_
                  exact ih13 (j2 + 1) w2 H locs ls (by omega) (by omega)  (hP.sub [0, 1, 2, 3] rfl)  hS (lv_sub hl [0, 1, 2, 3, 4] rfl)
                · refine lv_iload_n hx hb dX7_parted_36 rfl (lv_at hl 2 rfl) ?_
                  refine lv_aload_n hx hb dX7_parted_37 rfl (lv_at hl 3 rfl) ?_
                  refine va_get (D := D) (ci := 7) (v := .ref (a 48)) (C := RX7) (T := TX7) (N := 3) hx hb hts inT_X7 hown hK.1 hP 0 rfl rfl 0 (by decide) (hts _ k_471) (fun _ h9 => h9) rfl dX7_parted_38 ?_
                  refine lv_iload_n hx hb dX7_parted_41 rfl (lv_at hl 1 rfl) ?_
                  refine lv_bipush (v := 6) hx hb dX7_parted_42 (by decide) ?_
                  refine lv_imul hx hb dX7_parted_44 ?_
                  refine lv_topv (y := nI (j1 * 6)) (pk_mul j1 6) ?_
                  refine lv_iload_n hx hb dX7_parted_45 rfl (lv_at hl 4 rfl) ?_
                  refine lv_iadd hx hb dX7_parted_46 ?_
                  refine lv_topv (y := nI ((j1 * 6) + x1)) (nI_add (j1 * 6) x1) ?_
                  refine ld_i hx hb hK hP 1 rfl (lf_X7_parted_17 a y0 y1 y2 x1 hx1 j1 w1 k4 hj4 hk4 c_1 n_4 j2 w2 k13 hj13 hk13 c_6 n_9 r_12 c_13 r_15 c_16) dX7_parted_47 (fun x_18 => ?_)
                  refine lv_aload_n hx hb dX7_parted_48 rfl (lv_at hl 3 rfl) ?_
                  refine va_get (D := D) (ci := 7) (v := .ref (a 48)) (C := RX7) (T := TX7) (N := 3) hx hb hts inT_X7 hown hK.1 hP 0 rfl rfl 0 (by decide) (hts _ k_471) (fun _ h9 => h9) rfl dX7_parted_49 ?_
                  refine lv_iload hx hb dX7_parted_52 (lv_at hl 0 rfl) ?_
                  refine lv_bipush (v := 6) hx hb dX7_parted_54 (by decide) ?_
                  refine lv_imul hx hb dX7_parted_56 ?_
                  refine lv_topv (y := nI (j2 * 6)) (pk_mul j2 6) ?_
                  refine lv_iload_n hx hb dX7_parted_57 rfl (lv_at hl 4 rfl) ?_
                  refine lv_iadd hx hb dX7_parted_58 ?_
                  refine lv_topv (y := nI ((j2 * 6) + x1)) (nI_add (j2 * 6) x1) ?_
                  refine ld_i hx hb hK hP 1 rfl (lf_X7_parted_19 a y0 y1 y2 x1 hx1 j1 w1 k4 hj4 hk4 c_1 n_4 j2 w2 k13 hj13 hk13 c_6 n_9 r_12 c_13 r_15 c_16 x_18) dX7_parted_59 (fun x_20 => ?_)
                  refine lv_isub hx hb dX7_parted_60 ?_
                  refine lv_topi (fun x_21 ex_21 => ?_)
                  refine va_mabs hx hb (by rw [hml]; exact hl.1.symm) hown (hts _ k_1234) (hts _ k_971) (hts _ k_131) (hts _ k_972) (Nat.le_of_ble_eq_true rfl) (Nat.le_of_ble_eq_true rfl) (Nat.le_of_ble_eq_true rfl) (Nat.le_of_ble_eq_true rfl) dX7_parted_61 ?_
                  refine lv_topi (fun x_22 _ => ?_)
                  refine lv_iadd hx hb dX7_parted_64 ?_
                  refine lv_topi (fun x_23 ex_23 => ?_)
                  refine lv_istore_n (lv' := [(2, .int x_23), (4, .int (nI j2)), (3, .int (nI j1)), (0, .ref (a 12)), (1, .int (nI x1))]) hx hb dX7_parted_65 rfl hl (by decide) rfl (fun ls hl => ?_)
                  refine lv_iinc (v := nI (j2 + 1)) (lv' := [(4, .int (nI (j2 + 1))), (2, .int x_23), (3, .int (nI j1)), (0, .ref (a 12)), (1, .int (nI x1))]) hx hb dX7_parted_66 hl (k := 1) rfl (nI_1 j2) (by decide) rfl (fun ls hl => ?_)
                  refine lv_goto (tgt := 13) hx hb dX7_parted_69 (by decide) ?_
                  exact ih13 (j2 + 1) x_23 H locs ls (by omega) (by omega)  (hP.sub [0, 1, 2, 3] rfl)  hS (lv_sub hl [0, 2, 1, 3, 4] rfl)
        exact lp13 (j1 + 1) 0 w1 H locs ls (by omega) (by omega)  (hP.sub [0, 1, 2, 3] rfl)  hS (lv_sub hl [0, 1, 2, 3, 4] rfl)
  exact lp4 (6 + 1) 0 0 H locs ls (by omega) (by omega)  (hP.sub [0, 1, 2, 3] rfl)  hS (lv_sub hl [0, 1, 2, 3] rfl)

theorem lf_X0_fall_1 (a : Nat → Nat) (dm : Nat) : ((0 : Nat) ≤ 4) := by
  first | omega | assumption | trivial
set_option maxHeartbeats 4000000 in
set_option maxRecDepth 100000 in
theorem c_X0_fall (l : Launch) (D : va_G) (cI cB cZ cJ : ClassId) (tx : List (ClassId × FieldType)) (a : Nat → Nat) (dm : Nat) : WrV l D cI cB cZ cJ tx yX0_fall cX0_fall 1 none 0 0 0 [.ref (a 6)] [(a 6, .inr (0, [.ref (a 5), .ref (a 25), .ref (a 26), .ref (a 27), .ref (a 28), .ref (a 29), .int (nI dm)]))] (fun (v : (Nat)) => (v ≤ 4)) (fun v => [(a 6, .inr (0, [.ref (a 5), .ref (a 25), .ref (a 26), .ref (a 27), .ref (a 28), .ref (a 29), .int (nI v)]))]) := by
  refine wrv_of2 (by decide) (Nat.le_of_ble_eq_true rfl) ?_
  intro p e s m below meth c A ls H locs hC hK hP hD hA hS hl
  obtain ⟨hx, hb, hr, hml, hown, hts, hlocks, hin⟩ := hC
  have hown : s.vm.findClass RX0 = some m.cls := hown
  have hl : lv_has ls 1 [(0, .ref (a 6))] := hl
  refine lv_aload_n hx hb dX0_fall_0 rfl (lv_at hl 0 rfl) ?_
  refine lv_iconst (v := 0) hx hb dX0_fall_1 (by decide) ?_
  refine va_put (D := D) (ci := 0) (v := .int 0) (ty := .int) (C := RX0) (T := TX0) (N := 7) hx hb hts inT_X0 tyX0 tyX0_ok nmX0 hown hK.1 hP hD hS 0 rfl rfl 6 (by decide) (hts _ k_300) (fun _ h9 => h9) rfl (by decide +kernel) rfl rfl (Nat.le_of_ble_eq_true rfl) dX0_fall_2 (fun H locs hP hD hS => ?_)
  have hP : va_P D vwCl [(a 6, .inr (0, [.ref (a 5), .ref (a 25), .ref (a 26), .ref (a 27), .ref (a 28), .ref (a 29), .int 0]))] H := hP
  have hD : va_D A [(a 6, .inr (0, [.ref (a 5), .ref (a 25), .ref (a 26), .ref (a 27), .ref (a 28), .ref (a 29), .int 0]))] := hD
  exact W.vret hx hb hr (fun tt9 ht hW => ⟨⟨((0 : Nat)), rfl, (lf_X0_fall_1 a dm), ⟨by rw [ht]; exact hP, hD⟩⟩, hS.F ht⟩) hS.2.2 dX0_fall_5 hlocks

theorem lf_X0_has_2 (a : Nat → Nat) (dm : Nat) (n1 : Int32) : (bi ((0 : Int32) ≤ n1 ∧ n1 ≤ nI dm - 1) : Int32) = bi (0 ≤ n1 ∧ n1 ≤ nI dm - 1) := by
  rfl
set_option maxHeartbeats 4000000 in
set_option maxRecDepth 100000 in
theorem c_X0_has (l : Launch) (D : va_G) (cI cB cZ cJ : ClassId) (tx : List (ClassId × FieldType)) (a : Nat → Nat) (dm : Nat) (n1 : Int32) : RdI l D cI cB cZ cJ tx yX0_has cX0_has 2 (some .boolean) 1 [.ref (a 6), .int n1] [(a 6, .inr (0, [.ref (a 5), .ref (a 25), .ref (a 26), .ref (a 27), .ref (a 28), .ref (a 29), .int (nI dm)]))] (fun r => r = bi (0 ≤ n1 ∧ n1 ≤ nI dm - 1)) := by
  refine rdi_of2 (by decide) (Nat.le_of_ble_eq_true rfl) ?_
  intro p e s m below meth c A ls H locs hC hK hP hD hA hS hl
  obtain ⟨hx, hb, hr, hml, hown, hts, hlocks, hin⟩ := hC
  have hown : s.vm.findClass RX0 = some m.cls := hown
  have hl : lv_has ls 2 [(0, .ref (a 6)), (1, .int n1)] := hl
  refine lv_iload_n hx hb dX0_has_0 rfl (lv_at hl 1 rfl) ?_
  refine lv_iconst (v := 0) hx hb dX0_has_1 (by decide) ?_
  refine lv_aload_n hx hb dX0_has_2 rfl (lv_at hl 0 rfl) ?_
  refine va_get (D := D) (ci := 0) (v := .int (nI dm)) (C := RX0) (T := TX0) (N := 7) hx hb hts inT_X0 hown hK.1 hP 0 rfl rfl 6 (by decide) (hts _ k_300) (fun _ h9 => h9) rfl dX0_has_3 ?_
  refine lv_iconst (v := 1) hx hb dX0_has_6 (by decide) ?_
  refine lv_isub hx hb dX0_has_7 ?_
  refine eRi (va_runSN (As := [.int n1, .int 0, .int (nI dm - 1)]) (rest := []) ⟨hx, hb, hml, hown, hts⟩ (c_X11_within l D cI cB cZ cJ tx n1 0 (nI dm - 1) H.size) (zSN hts hK n_903 v_X11_within ⟨Nat.le_of_ble_eq_true rfl, Nat.le_of_ble_eq_true rfl⟩) (px0 hK) rfl rfl hl.1 rfl (lv_room (Nat.le_of_ble_eq_true rfl)) dX0_has_8 ⟨Nat.le_of_ble_eq_true rfl, Nat.le_of_ble_eq_true rfl⟩) hP hS hA (fun r_1 H locs wr_1 hP hS => ?_)
  subst wr_1
  exact W.zret (v := bi ((0 : Int32) ≤ n1 ∧ n1 ≤ nI dm - 1)) hx hb hr nb_bi (fun tt9 ht hW => ⟨⟨(bi ((0 : Int32) ≤ n1 ∧ n1 ≤ nI dm - 1) : Int32), (), rfl, (lf_X0_has_2 a dm n1), trivial⟩, hS.F ht⟩) hS.2.2 dX0_has_11 hlocks

theorem lf_X0_begin_3 (a : Nat → Nat) (dm : Nat) (d2 : Nat → Int32) (hdm : dm ≤ 4) (c_1 : nI dm < 4) : dm < 4 := by
  exact (nI_ltI (a := dm) (b := 4) (by omega) (by omega)).mp c_1
theorem lf_X0_begin_6 (a : Nat → Nat) (dm : Nat) (d2 : Nat → Int32) (hdm : dm ≤ 4) (c_1 : nI dm < 4) (n_2 : dm < 4) (j1 : Nat) (y12_a27 : Nat → Int32) (k12 : Nat) (hj12 : j1 ≤ 384) (hk12 : 384 < j1 + (k12 + 1)) (c_4 : 384 ≤ nI j1) : 384 ≤ j1 := by
  exact (nI_leI (a := 384) (b := j1) (by omega) (by omega)).mp c_4
theorem lf_X0_begin_7 (a : Nat → Nat) (dm : Nat) (d2 : Nat → Int32) (hdm : dm ≤ 4) (c_1 : nI dm < 4) (n_2 : dm < 4) (j1 : Nat) (y12_a27 : Nat → Int32) (k12 : Nat) (hj12 : j1 ≤ 384) (hk12 : 384 < j1 + (k12 + 1)) (c_4 : 384 ≤ nI j1) (n_5 : 384 ≤ j1) : (((dm + 1) : Nat) ≤ 4) := by
  first | omega | assumption | trivial
theorem lf_X0_begin_9 (a : Nat → Nat) (dm : Nat) (d2 : Nat → Int32) (hdm : dm ≤ 4) (c_1 : nI dm < 4) (n_2 : dm < 4) (j1 : Nat) (y12_a27 : Nat → Int32) (k12 : Nat) (hj12 : j1 ≤ 384) (hk12 : 384 < j1 + (k12 + 1)) (c_4 : ¬ 384 ≤ nI j1) : j1 < 384 := by
  exact Nat.lt_of_not_le (fun q => c_4 ((nI_leI (a := 384) (b := j1) (by omega) (by omega)).mpr q))
theorem lf_X0_begin_11 (a : Nat → Nat) (dm : Nat) (d2 : Nat → Int32) (hdm : dm ≤ 4) (c_1 : nI dm < 4) (n_2 : dm < 4) (j1 : Nat) (y12_a27 : Nat → Int32) (k12 : Nat) (hj12 : j1 ≤ 384) (hk12 : 384 < j1 + (k12 + 1)) (c_4 : ¬ 384 ≤ nI j1) (n_8 : j1 < 384) : vp_in (nI ((dm * 384) + j1)) 1536 := by
  first | exact vp_in_nI (by omega) (by decide) | (unfold vp_in; decide)
theorem lf_X0_begin_13 (a : Nat → Nat) (dm : Nat) (d2 : Nat → Int32) (hdm : dm ≤ 4) (c_1 : ¬ nI dm < 4) : 4 ≤ dm := by
  exact Nat.le_of_not_lt (fun q => c_1 ((nI_ltI (a := dm) (b := 4) (by omega) (by omega)).mpr q))
theorem lf_X0_begin_14 (a : Nat → Nat) (dm : Nat) (d2 : Nat → Int32) (hdm : dm ≤ 4) (c_1 : ¬ nI dm < 4) (n_12 : 4 ≤ dm) : ((dm : Nat) ≤ 4) := by
  first | omega | assumption | trivial
set_option maxHeartbeats 4000000 in
set_option maxRecDepth 100000 in
theorem c_X0_begin (l : Launch) (D : va_G) (cI cB cZ cJ : ClassId) (tx : List (ClassId × FieldType)) (a : Nat → Nat) (dm : Nat) (d2 : Nat → Int32) (hdm : dm ≤ 4) : WrI l D cI cB cZ cJ tx yX0_begin cX0_begin 2 (some .int) 0 0 0 [.ref (a 6)] [(a 6, .inr (0, [.ref (a 5), .ref (a 25), .ref (a 26), .ref (a 27), .ref (a 28), .ref (a 29), .int (nI dm)])), (a 27, .inl (cZ, 1536, .inl d2))] (fun (r : Int32) (v : (Nat) × (Nat → Int32)) => (v.1 ≤ 4)) (fun v => [(a 6, .inr (0, [.ref (a 5), .ref (a 25), .ref (a 26), .ref (a 27), .ref (a 28), .ref (a 29), .int (nI (v.1))])), (a 27, .inl (cZ, 1536, .inl v.2))]) := by
  refine wri_of2 (by decide) (Nat.le_of_ble_eq_true rfl) ?_
  intro p e s m below meth c A ls H locs hC hK hP hD hA hS hl
  obtain ⟨hx, hb, hr, hml, hown, hts, hlocks, hin⟩ := hC
  have hown : s.vm.findClass RX0 = some m.cls := hown
  have hl : lv_has ls 2 [(0, .ref (a 6))] := hl
  refine lv_aload_n hx hb dX0_begin_0 rfl (lv_at hl 0 rfl) ?_
  refine va_get (D := D) (ci := 0) (v := .int (nI dm)) (C := RX0) (T := TX0) (N := 7) hx hb hts inT_X0 hown hK.1 hP 0 rfl rfl 6 (by decide) (hts _ k_300) (fun _ h9 => h9) rfl dX0_begin_1 ?_
  refine lv_iconst (v := 4) hx hb dX0_begin_4 (by decide) ?_
  refine lv_icmp_lt (tgt := 10) hx hb dX0_begin_5 (by decide) (fun c_1 => ?_) (fun c_1 => ?_)
  · have n_2 : dm < 4 := (lf_X0_begin_3 a dm d2 hdm c_1)
    refine lv_iconst (v := 0) hx hb dX0_begin_10 (by decide) ?_
    refine lv_istore_n (lv' := [(1, .int 0), (0, .ref (a 6))]) hx hb dX0_begin_11 rfl hl (by decide) rfl (fun ls hl => ?_)
    have lp12 : ∀ (k12 : Nat) (j1 : Nat) (y12_a27 : Nat → Int32) (H : Heap) (locs : List Loc) (ls : Array Slot), j1 ≤ 384 → 384 < j1 + k12 → va_P D vwCl [(a 6, .inr (0, [.ref (a 5), .ref (a 25), .ref (a 26), .ref (a 27), .ref (a 28), .ref (a 29), .int (nI dm)])), (a 27, .inl (cZ, 1536, .inl y12_a27))] H → va_D A [(a 6, .inr (0, [.ref (a 5), .ref (a 25), .ref (a 26), .ref (a 27), .ref (a 28), .ref (a 29), .int (nI dm)])), (a 27, .inl (cZ, 1536, .inl y12_a27))] → va_S A s.heap H locs → lv_has ls 2 [(1, .int (nI j1)), (0, .ref (a 6))] → W p l e (rmX 0 0 0) s m ([.ref (a 6)] : List Value).toArray below meth c H locs 0 0 (MQ below (va_Qi (fun (r : Int32) (v : (Nat) × (Nat → Int32)) => (v.1 ≤ 4)) (fun u => BX D A ((fun v => [(a 6, .inr (0, [.ref (a 5), .ref (a 25), .ref (a 26), .ref (a 27), .ref (a 28), .ref (a 29), .int (nI (v.1))])), (a 27, .inl (cZ, 1536, .inl v.2))]) u)) A) ([.ref (a 6)] : List Value).toArray s 0 0 A) (F0 m 12 ls []) := by
      intro k12
      induction k12 with
      | zero =>
        intro j1 y12_a27 H locs ls hj12 hk12  hP hD hS hl
        exact absurd hk12 (by omega)
      | succ k12 ih12 =>
        intro j1 y12_a27 H locs ls hj12 hk12  hP hD hS hl
        refine lv_iload_n hx hb dX0_begin_12 rfl (lv_at hl 0 rfl) ?_
        refine lv_sipush (v := 384) hx hb dX0_begin_13 (by decide) ?_
        refine lv_icmp_ge (tgt := 41) hx hb dX0_begin_16 (by decide) (fun c_4 => ?_) (fun c_4 => ?_)
        · have n_5 : 384 ≤ j1 := (lf_X0_begin_6 a dm d2 hdm c_1 n_2 j1 y12_a27 k12 hj12 hk12 c_4)
          refine lv_aload_n hx hb dX0_begin_41 rfl (lv_at hl 1 rfl) ?_
          refine lv_dup hx hb dX0_begin_42 rfl ?_
          refine va_get (D := D) (ci := 0) (v := .int (nI dm)) (C := RX0) (T := TX0) (N := 7) hx hb hts inT_X0 hown hK.1 hP 0 rfl rfl 6 (by decide) (hts _ k_300) (fun _ h9 => h9) rfl dX0_begin_43 ?_
          refine lv_iconst (v := 1) hx hb dX0_begin_46 (by decide) ?_
          refine lv_iadd hx hb dX0_begin_47 ?_
          refine lv_topv (y := nI (dm + 1)) (nI_add dm 1) ?_
          refine va_put (D := D) (ci := 0) (v := .int (nI (dm + 1))) (ty := .int) (C := RX0) (T := TX0) (N := 7) hx hb hts inT_X0 tyX0 tyX0_ok nmX0 hown hK.1 hP hD hS 0 rfl rfl 6 (by decide) (hts _ k_300) (fun _ h9 => h9) rfl (by decide +kernel) rfl rfl (Nat.le_of_ble_eq_true rfl) dX0_begin_48 (fun H locs hP hD hS => ?_)
          have hP : va_P D vwCl [(a 6, .inr (0, [.ref (a 5), .ref (a 25), .ref (a 26), .ref (a 27), .ref (a 28), .ref (a 29), .int (nI (dm + 1))])), (a 27, .inl (cZ, 1536, .inl y12_a27))] H := hP
          have hD : va_D A [(a 6, .inr (0, [.ref (a 5), .ref (a 25), .ref (a 26), .ref (a 27), .ref (a 28), .ref (a 29), .int (nI (dm + 1))])), (a 27, .inl (cZ, 1536, .inl y12_a27))] := hD
          refine lv_aload_n hx hb dX0_begin_51 rfl (lv_at hl 1 rfl) ?_
          refine va_get (D := D) (ci := 0) (v := .int (nI (dm + 1))) (C := RX0) (T := TX0) (N := 7) hx hb hts inT_X0 hown hK.1 hP 0 rfl rfl 6 (by decide) (hts _ k_300) (fun _ h9 => h9) rfl dX0_begin_52 ?_
          refine lv_iconst (v := 1) hx hb dX0_begin_55 (by decide) ?_
          refine lv_isub hx hb dX0_begin_56 ?_
          exact W.iret (v := nI (dm + 1) - 1) hx hb hr (fun tt9 ht hW => ⟨⟨(nI (dm + 1) - 1 : Int32), (((dm + 1) : Nat), (y12_a27 : Nat → Int32)), rfl, (lf_X0_begin_7 a dm d2 hdm c_1 n_2 j1 y12_a27 k12 hj12 hk12 c_4 n_5), ⟨by rw [ht]; exact hP, hD⟩⟩, hS.F ht⟩) hS.2.2 dX0_begin_57 hlocks
        · have n_8 : j1 < 384 := (lf_X0_begin_9 a dm d2 hdm c_1 n_2 j1 y12_a27 k12 hj12 hk12 c_4)
          refine lv_aload_n hx hb dX0_begin_19 rfl (lv_at hl 1 rfl) ?_
          refine va_get (D := D) (ci := 0) (v := .ref (a 27)) (C := RX0) (T := TX0) (N := 7) hx hb hts inT_X0 hown hK.1 hP 0 rfl rfl 3 (by decide) (hts _ k_297) (fun _ h9 => h9) rfl dX0_begin_20 ?_
          refine lv_aload_n hx hb dX0_begin_23 rfl (lv_at hl 1 rfl) ?_
          refine va_get (D := D) (ci := 0) (v := .int (nI dm)) (C := RX0) (T := TX0) (N := 7) hx hb hts inT_X0 hown hK.1 hP 0 rfl rfl 6 (by decide) (hts _ k_300) (fun _ h9 => h9) rfl dX0_begin_24 ?_
          refine lv_sipush (v := 384) hx hb dX0_begin_27 (by decide) ?_
          refine lv_imul hx hb dX0_begin_30 ?_
          refine lv_topv (y := nI (dm * 384)) (pk_mul dm 384) ?_
          refine lv_iload_n hx hb dX0_begin_31 rfl (lv_at hl 0 rfl) ?_
          refine lv_iadd hx hb dX0_begin_32 ?_
          refine lv_topv (y := nI ((dm * 384) + j1)) (nI_add (dm * 384) j1) ?_
          refine lv_iconst (v := 0) hx hb dX0_begin_33 (by decide) ?_
          refine st_z hx hb hK hP hD hS 1 rfl (lf_X0_begin_11 a dm d2 hdm c_1 n_2 j1 y12_a27 k12 hj12 hk12 c_4 n_8) dX0_begin_34 (fun f_10 H locs hP hD hS => ?_)
          have hP : va_P D vwCl [(a 6, .inr (0, [.ref (a 5), .ref (a 25), .ref (a 26), .ref (a 27), .ref (a 28), .ref (a 29), .int (nI dm)])), (a 27, .inl (cZ, 1536, .inl f_10))] H := hP
          have hD : va_D A [(a 6, .inr (0, [.ref (a 5), .ref (a 25), .ref (a 26), .ref (a 27), .ref (a 28), .ref (a 29), .int (nI dm)])), (a 27, .inl (cZ, 1536, .inl f_10))] := hD
          refine lv_iinc (v := nI (j1 + 1)) (lv' := [(1, .int (nI (j1 + 1))), (0, .ref (a 6))]) hx hb dX0_begin_35 hl (k := 0) rfl (nI_1 j1) (by decide) rfl (fun ls hl => ?_)
          refine lv_goto (tgt := 12) hx hb dX0_begin_38 (by decide) ?_
          exact ih12 (j1 + 1) f_10 H locs ls (by omega) (by omega)  (hP.sub [0, 1] rfl) (hD.sub [0, 1] (by decide) rfl) hS (lv_sub hl [0, 1] rfl)
    exact lp12 (384 + 1) 0 d2 H locs ls (by omega) (by omega)  (hP.sub [0, 1] rfl) (hD.sub [0, 1] (by decide) rfl) hS (lv_sub hl [0, 1] rfl)
  · have n_12 : 4 ≤ dm := (lf_X0_begin_13 a dm d2 hdm c_1)
    refine lv_iconst (v := (-1)) hx hb dX0_begin_8 (by decide) ?_
    exact W.iret (v := (-1)) hx hb hr (fun tt9 ht hW => ⟨⟨((-1) : Int32), ((dm : Nat), (d2 : Nat → Int32)), rfl, (lf_X0_begin_14 a dm d2 hdm c_1 n_12), ⟨by rw [ht]; exact hP, hD⟩⟩, hS.F ht⟩) hS.2.2 dX0_begin_9 hlocks

theorem lf_X0_put_2 (a : Nat → Nat) (dm : Nat) (d0 : Nat → Int32) (d1 : Nat → Int32) (d2 : Nat → Int32) (x1 : Nat) (x2 : Nat) (n3 : Int32) (n4 : Int32) (hx1 : x1 < 4) (hx2 : x2 < 384) : vp_in (nI ((x1 * 384) + x2)) 1536 := by
  first | exact vp_in_nI (by omega) (by decide) | (unfold vp_in; decide)
theorem lf_X0_put_4 (a : Nat → Nat) (dm : Nat) (d0 : Nat → Int32) (d1 : Nat → Int32) (d2 : Nat → Int32) (x1 : Nat) (x2 : Nat) (n3 : Int32) (n4 : Int32) (hx1 : x1 < 4) (hx2 : x2 < 384) (f_1 : Nat → Int32) : vp_in (nI ((x1 * 384) + x2)) 1536 := by
  first | exact vp_in_nI (by omega) (by decide) | (unfold vp_in; decide)
theorem lf_X0_put_6 (a : Nat → Nat) (dm : Nat) (d0 : Nat → Int32) (d1 : Nat → Int32) (d2 : Nat → Int32) (x1 : Nat) (x2 : Nat) (n3 : Int32) (n4 : Int32) (hx1 : x1 < 4) (hx2 : x2 < 384) (f_1 : Nat → Int32) (f_3 : Nat → Int32) : vp_in (nI ((x1 * 384) + x2)) 1536 := by
  first | exact vp_in_nI (by omega) (by decide) | (unfold vp_in; decide)
set_option maxHeartbeats 4000000 in
set_option maxRecDepth 100000 in
theorem c_X0_put (l : Launch) (D : va_G) (cI cB cZ cJ : ClassId) (tx : List (ClassId × FieldType)) (a : Nat → Nat) (dm : Nat) (d0 : Nat → Int32) (d1 : Nat → Int32) (d2 : Nat → Int32) (x1 : Nat) (x2 : Nat) (n3 : Int32) (n4 : Int32) (hx1 : x1 < 4) (hx2 : x2 < 384) : WrV l D cI cB cZ cJ tx yX0_put cX0_put 6 none 0 0 0 [.ref (a 6), .int (nI x1), .int (nI x2), .int n3, .int n4] [(a 6, .inr (0, [.ref (a 5), .ref (a 25), .ref (a 26), .ref (a 27), .ref (a 28), .ref (a 29), .int (nI dm)])), (a 25, .inl (cI, 1536, .inl d0)), (a 26, .inl (cI, 1536, .inl d1)), (a 27, .inl (cZ, 1536, .inl d2))] (fun (v : (Nat → Int32) × (Nat → Int32) × (Nat → Int32)) => True) (fun v => [(a 6, .inr (0, [.ref (a 5), .ref (a 25), .ref (a 26), .ref (a 27), .ref (a 28), .ref (a 29), .int (nI dm)])), (a 25, .inl (cI, 1536, .inl v.1)), (a 26, .inl (cI, 1536, .inl v.2.1)), (a 27, .inl (cZ, 1536, .inl v.2.2))]) := by
  refine wrv_of2 (by decide) (Nat.le_of_ble_eq_true rfl) ?_
  intro p e s m below meth c A ls H locs hC hK hP hD hA hS hl
  obtain ⟨hx, hb, hr, hml, hown, hts, hlocks, hin⟩ := hC
  have hown : s.vm.findClass RX0 = some m.cls := hown
  have hl : lv_has ls 6 [(0, .ref (a 6)), (1, .int (nI x1)), (2, .int (nI x2)), (3, .int n3), (4, .int n4)] := hl
  refine lv_iload_n hx hb dX0_put_0 rfl (lv_at hl 1 rfl) ?_
  refine lv_sipush (v := 384) hx hb dX0_put_1 (by decide) ?_
  refine lv_imul hx hb dX0_put_4 ?_
  refine lv_topv (y := nI (x1 * 384)) (pk_mul x1 384) ?_
  refine lv_iload_n hx hb dX0_put_5 rfl (lv_at hl 2 rfl) ?_
  refine lv_iadd hx hb dX0_put_6 ?_
  refine lv_topv (y := nI ((x1 * 384) + x2)) (nI_add (x1 * 384) x2) ?_
  refine lv_istore (lv' := [(5, .int (nI ((x1 * 384) + x2))), (0, .ref (a 6)), (1, .int (nI x1)), (2, .int (nI x2)), (3, .int n3), (4, .int n4)]) hx hb dX0_put_7 hl (by decide) rfl (fun ls hl => ?_)
  refine lv_aload_n hx hb dX0_put_9 rfl (lv_at hl 1 rfl) ?_
  refine va_get (D := D) (ci := 0) (v := .ref (a 25)) (C := RX0) (T := TX0) (N := 7) hx hb hts inT_X0 hown hK.1 hP 0 rfl rfl 1 (by decide) (hts _ k_295) (fun _ h9 => h9) rfl dX0_put_10 ?_
  refine lv_iload hx hb dX0_put_13 (lv_at hl 0 rfl) ?_
  refine lv_iload_n hx hb dX0_put_15 rfl (lv_at hl 4 rfl) ?_
  refine st_i hx hb hK hP hD hS 1 rfl (lf_X0_put_2 a dm d0 d1 d2 x1 x2 n3 n4 hx1 hx2) dX0_put_16 (fun f_1 H locs hP hD hS => ?_)
  have hP : va_P D vwCl [(a 6, .inr (0, [.ref (a 5), .ref (a 25), .ref (a 26), .ref (a 27), .ref (a 28), .ref (a 29), .int (nI dm)])), (a 25, .inl (cI, 1536, .inl f_1)), (a 26, .inl (cI, 1536, .inl d1)), (a 27, .inl (cZ, 1536, .inl d2))] H := hP
  have hD : va_D A [(a 6, .inr (0, [.ref (a 5), .ref (a 25), .ref (a 26), .ref (a 27), .ref (a 28), .ref (a 29), .int (nI dm)])), (a 25, .inl (cI, 1536, .inl f_1)), (a 26, .inl (cI, 1536, .inl d1)), (a 27, .inl (cZ, 1536, .inl d2))] := hD
  refine lv_aload_n hx hb dX0_put_17 rfl (lv_at hl 1 rfl) ?_
  refine va_get (D := D) (ci := 0) (v := .ref (a 26)) (C := RX0) (T := TX0) (N := 7) hx hb hts inT_X0 hown hK.1 hP 0 rfl rfl 2 (by decide) (hts _ k_296) (fun _ h9 => h9) rfl dX0_put_18 ?_
  refine lv_iload hx hb dX0_put_21 (lv_at hl 0 rfl) ?_
  refine lv_iload hx hb dX0_put_23 (lv_at hl 5 rfl) ?_
  refine st_i hx hb hK hP hD hS 2 rfl (lf_X0_put_4 a dm d0 d1 d2 x1 x2 n3 n4 hx1 hx2 f_1) dX0_put_25 (fun f_3 H locs hP hD hS => ?_)
  have hP : va_P D vwCl [(a 6, .inr (0, [.ref (a 5), .ref (a 25), .ref (a 26), .ref (a 27), .ref (a 28), .ref (a 29), .int (nI dm)])), (a 25, .inl (cI, 1536, .inl f_1)), (a 26, .inl (cI, 1536, .inl f_3)), (a 27, .inl (cZ, 1536, .inl d2))] H := hP
  have hD : va_D A [(a 6, .inr (0, [.ref (a 5), .ref (a 25), .ref (a 26), .ref (a 27), .ref (a 28), .ref (a 29), .int (nI dm)])), (a 25, .inl (cI, 1536, .inl f_1)), (a 26, .inl (cI, 1536, .inl f_3)), (a 27, .inl (cZ, 1536, .inl d2))] := hD
  refine lv_aload_n hx hb dX0_put_26 rfl (lv_at hl 1 rfl) ?_
  refine va_get (D := D) (ci := 0) (v := .ref (a 27)) (C := RX0) (T := TX0) (N := 7) hx hb hts inT_X0 hown hK.1 hP 0 rfl rfl 3 (by decide) (hts _ k_297) (fun _ h9 => h9) rfl dX0_put_27 ?_
  refine lv_iload hx hb dX0_put_30 (lv_at hl 0 rfl) ?_
  refine lv_iconst (v := 1) hx hb dX0_put_32 (by decide) ?_
  refine st_z hx hb hK hP hD hS 3 rfl (lf_X0_put_6 a dm d0 d1 d2 x1 x2 n3 n4 hx1 hx2 f_1 f_3) dX0_put_33 (fun f_5 H locs hP hD hS => ?_)
  have hP : va_P D vwCl [(a 6, .inr (0, [.ref (a 5), .ref (a 25), .ref (a 26), .ref (a 27), .ref (a 28), .ref (a 29), .int (nI dm)])), (a 25, .inl (cI, 1536, .inl f_1)), (a 26, .inl (cI, 1536, .inl f_3)), (a 27, .inl (cZ, 1536, .inl f_5))] H := hP
  have hD : va_D A [(a 6, .inr (0, [.ref (a 5), .ref (a 25), .ref (a 26), .ref (a 27), .ref (a 28), .ref (a 29), .int (nI dm)])), (a 25, .inl (cI, 1536, .inl f_1)), (a 26, .inl (cI, 1536, .inl f_3)), (a 27, .inl (cZ, 1536, .inl f_5))] := hD
  exact W.vret hx hb hr (fun tt9 ht hW => ⟨⟨((f_1 : Nat → Int32), (f_3 : Nat → Int32), (f_5 : Nat → Int32)), rfl, trivial, ⟨by rw [ht]; exact hP, hD⟩⟩, hS.F ht⟩) hS.2.2 dX0_put_34 hlocks

theorem lf_X0_at_2 (a : Nat → Nat) (dm : Nat) (d0 : Nat → Int32) (d1 : Nat → Int32) (x1 : Nat) (x2 : Nat) (n3 : Int32) (hx1 : x1 < 4) (hx2 : x2 < 384) (c_1 : ¬ n3 = 0) : vp_in (nI ((x1 * 384) + x2)) 1536 := by
  first | exact vp_in_nI (by omega) (by decide) | (unfold vp_in; decide)
theorem lf_X0_at_4 (a : Nat → Nat) (dm : Nat) (d0 : Nat → Int32) (d1 : Nat → Int32) (x1 : Nat) (x2 : Nat) (n3 : Int32) (hx1 : x1 < 4) (hx2 : x2 < 384) (c_1 : n3 = 0) : vp_in (nI ((x1 * 384) + x2)) 1536 := by
  first | exact vp_in_nI (by omega) (by decide) | (unfold vp_in; decide)
set_option maxHeartbeats 4000000 in
set_option maxRecDepth 100000 in
theorem c_X0_at (l : Launch) (D : va_G) (cI cB cZ cJ : ClassId) (tx : List (ClassId × FieldType)) (a : Nat → Nat) (dm : Nat) (d0 : Nat → Int32) (d1 : Nat → Int32) (x1 : Nat) (x2 : Nat) (n3 : Int32) (hx1 : x1 < 4) (hx2 : x2 < 384) : RdI l D cI cB cZ cJ tx yX0_at cX0_at 5 (some .int) 0 [.ref (a 6), .int (nI x1), .int (nI x2), .int n3] [(a 6, .inr (0, [.ref (a 5), .ref (a 25), .ref (a 26), .ref (a 27), .ref (a 28), .ref (a 29), .int (nI dm)])), (a 25, .inl (cI, 1536, .inl d0)), (a 26, .inl (cI, 1536, .inl d1))] (fun r => True) := by
  refine rdi_of2 (by decide) (Nat.le_of_ble_eq_true rfl) ?_
  intro p e s m below meth c A ls H locs hC hK hP hD hA hS hl
  obtain ⟨hx, hb, hr, hml, hown, hts, hlocks, hin⟩ := hC
  have hown : s.vm.findClass RX0 = some m.cls := hown
  have hl : lv_has ls 5 [(0, .ref (a 6)), (1, .int (nI x1)), (2, .int (nI x2)), (3, .int n3)] := hl
  refine lv_iload_n hx hb dX0_at_0 rfl (lv_at hl 1 rfl) ?_
  refine lv_sipush (v := 384) hx hb dX0_at_1 (by decide) ?_
  refine lv_imul hx hb dX0_at_4 ?_
  refine lv_topv (y := nI (x1 * 384)) (pk_mul x1 384) ?_
  refine lv_iload_n hx hb dX0_at_5 rfl (lv_at hl 2 rfl) ?_
  refine lv_iadd hx hb dX0_at_6 ?_
  refine lv_topv (y := nI ((x1 * 384) + x2)) (nI_add (x1 * 384) x2) ?_
  refine lv_istore (lv' := [(4, .int (nI ((x1 * 384) + x2))), (0, .ref (a 6)), (1, .int (nI x1)), (2, .int (nI x2)), (3, .int n3)]) hx hb dX0_at_7 hl (by decide) rfl (fun ls hl => ?_)
  refine lv_iload_n hx hb dX0_at_9 rfl (lv_at hl 4 rfl) ?_
  refine lv_if_ne (tgt := 23) hx hb dX0_at_10 (by decide) (fun c_1 => ?_) (fun c_1 => ?_)
  · refine lv_aload_n hx hb dX0_at_23 rfl (lv_at hl 1 rfl) ?_
    refine va_get (D := D) (ci := 0) (v := .ref (a 26)) (C := RX0) (T := TX0) (N := 7) hx hb hts inT_X0 hown hK.1 hP 0 rfl rfl 2 (by decide) (hts _ k_296) (fun _ h9 => h9) rfl dX0_at_24 ?_
    refine lv_iload hx hb dX0_at_27 (lv_at hl 0 rfl) ?_
    refine ld_i hx hb hK hP 2 rfl (lf_X0_at_2 a dm d0 d1 x1 x2 n3 hx1 hx2 c_1) dX0_at_29 (fun x_3 => ?_)
    exact W.iret (v := x_3) hx hb hr (fun tt9 ht hW => ⟨⟨(x_3 : Int32), (), rfl, trivial, trivial⟩, hS.F ht⟩) hS.2.2 dX0_at_30 hlocks
  · refine lv_aload_n hx hb dX0_at_13 rfl (lv_at hl 1 rfl) ?_
    refine va_get (D := D) (ci := 0) (v := .ref (a 25)) (C := RX0) (T := TX0) (N := 7) hx hb hts inT_X0 hown hK.1 hP 0 rfl rfl 1 (by decide) (hts _ k_295) (fun _ h9 => h9) rfl dX0_at_14 ?_
    refine lv_iload hx hb dX0_at_17 (lv_at hl 0 rfl) ?_
    refine ld_i hx hb hK hP 1 rfl (lf_X0_at_4 a dm d0 d1 x1 x2 n3 hx1 hx2 c_1) dX0_at_19 (fun x_5 => ?_)
    refine lv_goto (tgt := 30) hx hb dX0_at_20 (by decide) ?_
    exact W.iret (v := x_5) hx hb hr (fun tt9 ht hW => ⟨⟨(x_5 : Int32), (), rfl, trivial, trivial⟩, hS.F ht⟩) hS.2.2 dX0_at_30 hlocks

theorem lf_X0_hasMark_g_5 (a : Nat → Nat) (dm : Nat) (d2 : Nat → Int32) (x1 : Nat) (x2 : Nat) (hdm : dm ≤ 4) (hx1 : x1 < dm) (hx2 : x2 < 384) (c_2 : (0 : Int32) ≤ nI x1 ∧ nI x1 ≤ nI dm - 1) (c_4 : (0 : Int32) ≤ nI x2 ∧ nI x2 ≤ 383) : vp_in (nI ((x1 * 384) + x2)) 1536 := by
  first | exact vp_in_nI (by omega) (by decide) | (unfold vp_in; decide)
set_option maxHeartbeats 4000000 in
set_option maxRecDepth 100000 in
theorem c_X0_hasMark_g (l : Launch) (D : va_G) (cI cB cZ cJ : ClassId) (tx : List (ClassId × FieldType)) (a : Nat → Nat) (dm : Nat) (d2 : Nat → Int32) (x1 : Nat) (x2 : Nat) (hdm : dm ≤ 4) (hx1 : x1 < dm) (hx2 : x2 < 384) : RdI l D cI cB cZ cJ tx yX0_hasMark cX0_hasMark 3 (some .boolean) 2 [.ref (a 6), .int (nI x1), .int (nI x2)] [(a 6, .inr (0, [.ref (a 5), .ref (a 25), .ref (a 26), .ref (a 27), .ref (a 28), .ref (a 29), .int (nI dm)])), (a 27, .inl (cZ, 1536, .inl d2))] (fun r => True) := by
  refine rdi_of2 (by decide) (Nat.le_of_ble_eq_true rfl) ?_
  intro p e s m below meth c A ls H locs hC hK hP hD hA hS hl
  obtain ⟨hx, hb, hr, hml, hown, hts, hlocks, hin⟩ := hC
  have hown : s.vm.findClass RX0 = some m.cls := hown
  have hl : lv_has ls 3 [(0, .ref (a 6)), (1, .int (nI x1)), (2, .int (nI x2))] := hl
  refine lv_aload_n hx hb dX0_hasMark_0 rfl (lv_at hl 0 rfl) ?_
  refine lv_iload_n hx hb dX0_hasMark_1 rfl (lv_at hl 1 rfl) ?_
  refine eRi (va_runV (As := [.int (nI x1)]) (rest := []) ⟨hx, hb, hml, hown, hts⟩ (c_X0_has l D cI cB cZ cJ tx a dm (nI x1) H.size) (zV hts k_928 v_X0_has ⟨Nat.le_of_ble_eq_true rfl, Nat.le_of_ble_eq_true rfl⟩) (pV (px1 hK hP 0 rfl) hK hP 0 rfl rfl) rfl rfl hl.1 rfl (lv_room (Nat.le_of_ble_eq_true rfl)) dX0_hasMark_2 ⟨Nat.le_of_ble_eq_true rfl, Nat.le_of_ble_eq_true rfl⟩) hP hS hA (fun r_1 H locs wr_1 hP hS => ?_)
  subst wr_1
  refine lv_bi_eq (tgt := 38) hx hb dX0_hasMark_5 (by decide) (fun c_2 => ?_) (fun c_2 => ?_)
  · refine lv_iconst (v := 0) hx hb dX0_hasMark_38 (by decide) ?_
    exact W.zret (v := 0) hx hb hr (by decide) (fun tt9 ht hW => ⟨⟨(0 : Int32), (), rfl, trivial, trivial⟩, hS.F ht⟩) hS.2.2 dX0_hasMark_39 hlocks
  · refine lv_iload_n hx hb dX0_hasMark_8 rfl (lv_at hl 2 rfl) ?_
    refine lv_iconst (v := 0) hx hb dX0_hasMark_9 (by decide) ?_
    refine lv_sipush (v := 383) hx hb dX0_hasMark_10 (by decide) ?_
    refine eRi (va_runSN (As := [.int (nI x2), .int 0, .int 383]) (rest := []) ⟨hx, hb, hml, hown, hts⟩ (c_X11_within l D cI cB cZ cJ tx (nI x2) 0 383 H.size) (zSN hts hK n_903 v_X11_within ⟨Nat.le_of_ble_eq_true rfl, Nat.le_of_ble_eq_true rfl⟩) (px0 hK) rfl rfl hl.1 rfl (lv_room (Nat.le_of_ble_eq_true rfl)) dX0_hasMark_13 ⟨Nat.le_of_ble_eq_true rfl, Nat.le_of_ble_eq_true rfl⟩) hP hS hA (fun r_3 H locs wr_3 hP hS => ?_)
    subst wr_3
    refine lv_bi_eq (tgt := 38) hx hb dX0_hasMark_16 (by decide) (fun c_4 => ?_) (fun c_4 => ?_)
    · refine lv_iconst (v := 0) hx hb dX0_hasMark_38 (by decide) ?_
      exact W.zret (v := 0) hx hb hr (by decide) (fun tt9 ht hW => ⟨⟨(0 : Int32), (), rfl, trivial, trivial⟩, hS.F ht⟩) hS.2.2 dX0_hasMark_39 hlocks
    · refine lv_aload_n hx hb dX0_hasMark_19 rfl (lv_at hl 0 rfl) ?_
      refine va_get (D := D) (ci := 0) (v := .ref (a 27)) (C := RX0) (T := TX0) (N := 7) hx hb hts inT_X0 hown hK.1 hP 0 rfl rfl 3 (by decide) (hts _ k_297) (fun _ h9 => h9) rfl dX0_hasMark_20 ?_
      refine lv_iload_n hx hb dX0_hasMark_23 rfl (lv_at hl 1 rfl) ?_
      refine lv_sipush (v := 384) hx hb dX0_hasMark_24 (by decide) ?_
      refine lv_imul hx hb dX0_hasMark_27 ?_
      refine lv_topv (y := nI (x1 * 384)) (pk_mul x1 384) ?_
      refine lv_iload_n hx hb dX0_hasMark_28 rfl (lv_at hl 2 rfl) ?_
      refine lv_iadd hx hb dX0_hasMark_29 ?_
      refine lv_topv (y := nI ((x1 * 384) + x2)) (nI_add (x1 * 384) x2) ?_
      refine ld_z hx hb hK hP 1 rfl (lf_X0_hasMark_g_5 a dm d2 x1 x2 hdm hx1 hx2 c_2 c_4) dX0_hasMark_30 (fun x_6 => ?_)
      refine lv_if_eq (tgt := 38) hx hb dX0_hasMark_31 (by decide) (fun c_7 => ?_) (fun c_7 => ?_)
      · refine lv_iconst (v := 0) hx hb dX0_hasMark_38 (by decide) ?_
        exact W.zret (v := 0) hx hb hr (by decide) (fun tt9 ht hW => ⟨⟨(0 : Int32), (), rfl, trivial, trivial⟩, hS.F ht⟩) hS.2.2 dX0_hasMark_39 hlocks
      · refine lv_iconst (v := 1) hx hb dX0_hasMark_34 (by decide) ?_
        refine lv_goto (tgt := 39) hx hb dX0_hasMark_35 (by decide) ?_
        exact W.zret (v := 1) hx hb hr (by decide) (fun tt9 ht hW => ⟨⟨(1 : Int32), (), rfl, trivial, trivial⟩, hS.F ht⟩) hS.2.2 dX0_hasMark_39 hlocks

theorem lf_X0_gather_d3_3 (a : Nat → Nat) (dm : Nat) (d0 : Nat → Int32) (d1 : Nat → Int32) (d2 : Nat → Int32) (d3 : Nat → Int32) (x1 : Nat) (x2 : Nat) (n3 : Int32) (hdm : dm ≤ 4) (hx1 : x1 < dm) (hx2 : x2 < dm) (j1 : Nat) (cn : Nat) (y6_a28 : Nat → Int32) (k6 : Nat) (hj6 : j1 ≤ 384) (hk6 : 384 < j1 + (k6 + 1)) (hcn : cn ≤ j1) (c_1 : 384 ≤ nI j1) : 384 ≤ j1 := by
  exact (nI_leI (a := 384) (b := j1) (by omega) (by omega)).mp c_1
theorem lf_X0_gather_d3_4 (a : Nat → Nat) (dm : Nat) (d0 : Nat → Int32) (d1 : Nat → Int32) (d2 : Nat → Int32) (d3 : Nat → Int32) (x1 : Nat) (x2 : Nat) (n3 : Int32) (hdm : dm ≤ 4) (hx1 : x1 < dm) (hx2 : x2 < dm) (j1 : Nat) (cn : Nat) (y6_a28 : Nat → Int32) (k6 : Nat) (hj6 : j1 ≤ 384) (hk6 : 384 < j1 + (k6 + 1)) (hcn : cn ≤ j1) (c_1 : 384 ≤ nI j1) (n_2 : 384 ≤ j1) : ∃ m : Nat, m ≤ 384 ∧ (nI cn : Int32) = nI m := by
  exact ⟨_, by omega, rfl⟩
theorem lf_X0_gather_d3_6 (a : Nat → Nat) (dm : Nat) (d0 : Nat → Int32) (d1 : Nat → Int32) (d2 : Nat → Int32) (d3 : Nat → Int32) (x1 : Nat) (x2 : Nat) (n3 : Int32) (hdm : dm ≤ 4) (hx1 : x1 < dm) (hx2 : x2 < dm) (j1 : Nat) (cn : Nat) (y6_a28 : Nat → Int32) (k6 : Nat) (hj6 : j1 ≤ 384) (hk6 : 384 < j1 + (k6 + 1)) (hcn : cn ≤ j1) (c_1 : ¬ 384 ≤ nI j1) : j1 < 384 := by
  exact Nat.lt_of_not_le (fun q => c_1 ((nI_leI (a := 384) (b := j1) (by omega) (by omega)).mpr q))
theorem lf_X0_gather_d3_7 (a : Nat → Nat) (dm : Nat) (d0 : Nat → Int32) (d1 : Nat → Int32) (d2 : Nat → Int32) (d3 : Nat → Int32) (x1 : Nat) (x2 : Nat) (n3 : Int32) (hdm : dm ≤ 4) (hx1 : x1 < dm) (hx2 : x2 < dm) (j1 : Nat) (cn : Nat) (y6_a28 : Nat → Int32) (k6 : Nat) (hj6 : j1 ≤ 384) (hk6 : 384 < j1 + (k6 + 1)) (hcn : cn ≤ j1) (c_1 : ¬ 384 ≤ nI j1) (n_5 : j1 < 384) : dm ≤ 4 := by
  first | assumption | omega | decide
theorem lf_X0_gather_d3_8 (a : Nat → Nat) (dm : Nat) (d0 : Nat → Int32) (d1 : Nat → Int32) (d2 : Nat → Int32) (d3 : Nat → Int32) (x1 : Nat) (x2 : Nat) (n3 : Int32) (hdm : dm ≤ 4) (hx1 : x1 < dm) (hx2 : x2 < dm) (j1 : Nat) (cn : Nat) (y6_a28 : Nat → Int32) (k6 : Nat) (hj6 : j1 ≤ 384) (hk6 : 384 < j1 + (k6 + 1)) (hcn : cn ≤ j1) (c_1 : ¬ 384 ≤ nI j1) (n_5 : j1 < 384) : x1 < dm := by
  first | assumption | omega | decide
theorem lf_X0_gather_d3_9 (a : Nat → Nat) (dm : Nat) (d0 : Nat → Int32) (d1 : Nat → Int32) (d2 : Nat → Int32) (d3 : Nat → Int32) (x1 : Nat) (x2 : Nat) (n3 : Int32) (hdm : dm ≤ 4) (hx1 : x1 < dm) (hx2 : x2 < dm) (j1 : Nat) (cn : Nat) (y6_a28 : Nat → Int32) (k6 : Nat) (hj6 : j1 ≤ 384) (hk6 : 384 < j1 + (k6 + 1)) (hcn : cn ≤ j1) (c_1 : ¬ 384 ≤ nI j1) (n_5 : j1 < 384) : j1 < 384 := by
  first | assumption | omega | decide
theorem lf_X0_gather_d3_12 (a : Nat → Nat) (dm : Nat) (d0 : Nat → Int32) (d1 : Nat → Int32) (d2 : Nat → Int32) (d3 : Nat → Int32) (x1 : Nat) (x2 : Nat) (n3 : Int32) (hdm : dm ≤ 4) (hx1 : x1 < dm) (hx2 : x2 < dm) (j1 : Nat) (cn : Nat) (y6_a28 : Nat → Int32) (k6 : Nat) (hj6 : j1 ≤ 384) (hk6 : 384 < j1 + (k6 + 1)) (hcn : cn ≤ j1) (c_1 : ¬ 384 ≤ nI j1) (n_5 : j1 < 384) (r_10 : Int32) (c_11 : r_10 = 0) : cn ≤ (j1 + 1) := by
  first | assumption | omega
theorem lf_X0_gather_d3_13 (a : Nat → Nat) (dm : Nat) (d0 : Nat → Int32) (d1 : Nat → Int32) (d2 : Nat → Int32) (d3 : Nat → Int32) (x1 : Nat) (x2 : Nat) (n3 : Int32) (hdm : dm ≤ 4) (hx1 : x1 < dm) (hx2 : x2 < dm) (j1 : Nat) (cn : Nat) (y6_a28 : Nat → Int32) (k6 : Nat) (hj6 : j1 ≤ 384) (hk6 : 384 < j1 + (k6 + 1)) (hcn : cn ≤ j1) (c_1 : ¬ 384 ≤ nI j1) (n_5 : j1 < 384) (r_10 : Int32) (c_11 : ¬ r_10 = 0) : dm ≤ 4 := by
  first | assumption | omega | decide
theorem lf_X0_gather_d3_14 (a : Nat → Nat) (dm : Nat) (d0 : Nat → Int32) (d1 : Nat → Int32) (d2 : Nat → Int32) (d3 : Nat → Int32) (x1 : Nat) (x2 : Nat) (n3 : Int32) (hdm : dm ≤ 4) (hx1 : x1 < dm) (hx2 : x2 < dm) (j1 : Nat) (cn : Nat) (y6_a28 : Nat → Int32) (k6 : Nat) (hj6 : j1 ≤ 384) (hk6 : 384 < j1 + (k6 + 1)) (hcn : cn ≤ j1) (c_1 : ¬ 384 ≤ nI j1) (n_5 : j1 < 384) (r_10 : Int32) (c_11 : ¬ r_10 = 0) : x2 < dm := by
  first | assumption | omega | decide
theorem lf_X0_gather_d3_15 (a : Nat → Nat) (dm : Nat) (d0 : Nat → Int32) (d1 : Nat → Int32) (d2 : Nat → Int32) (d3 : Nat → Int32) (x1 : Nat) (x2 : Nat) (n3 : Int32) (hdm : dm ≤ 4) (hx1 : x1 < dm) (hx2 : x2 < dm) (j1 : Nat) (cn : Nat) (y6_a28 : Nat → Int32) (k6 : Nat) (hj6 : j1 ≤ 384) (hk6 : 384 < j1 + (k6 + 1)) (hcn : cn ≤ j1) (c_1 : ¬ 384 ≤ nI j1) (n_5 : j1 < 384) (r_10 : Int32) (c_11 : ¬ r_10 = 0) : j1 < 384 := by
  first | assumption | omega | decide
theorem lf_X0_gather_d3_18 (a : Nat → Nat) (dm : Nat) (d0 : Nat → Int32) (d1 : Nat → Int32) (d2 : Nat → Int32) (d3 : Nat → Int32) (x1 : Nat) (x2 : Nat) (n3 : Int32) (hdm : dm ≤ 4) (hx1 : x1 < dm) (hx2 : x2 < dm) (j1 : Nat) (cn : Nat) (y6_a28 : Nat → Int32) (k6 : Nat) (hj6 : j1 ≤ 384) (hk6 : 384 < j1 + (k6 + 1)) (hcn : cn ≤ j1) (c_1 : ¬ 384 ≤ nI j1) (n_5 : j1 < 384) (r_10 : Int32) (c_11 : ¬ r_10 = 0) (r_16 : Int32) (c_17 : r_16 = 0) : cn ≤ (j1 + 1) := by
  first | assumption | omega
theorem lf_X0_gather_d3_19 (a : Nat → Nat) (dm : Nat) (d0 : Nat → Int32) (d1 : Nat → Int32) (d2 : Nat → Int32) (d3 : Nat → Int32) (x1 : Nat) (x2 : Nat) (n3 : Int32) (hdm : dm ≤ 4) (hx1 : x1 < dm) (hx2 : x2 < dm) (j1 : Nat) (cn : Nat) (y6_a28 : Nat → Int32) (k6 : Nat) (hj6 : j1 ≤ 384) (hk6 : 384 < j1 + (k6 + 1)) (hcn : cn ≤ j1) (c_1 : ¬ 384 ≤ nI j1) (n_5 : j1 < 384) (r_10 : Int32) (c_11 : ¬ r_10 = 0) (r_16 : Int32) (c_17 : ¬ r_16 = 0) : x2 < 4 := by
  first | assumption | omega | decide
theorem lf_X0_gather_d3_20 (a : Nat → Nat) (dm : Nat) (d0 : Nat → Int32) (d1 : Nat → Int32) (d2 : Nat → Int32) (d3 : Nat → Int32) (x1 : Nat) (x2 : Nat) (n3 : Int32) (hdm : dm ≤ 4) (hx1 : x1 < dm) (hx2 : x2 < dm) (j1 : Nat) (cn : Nat) (y6_a28 : Nat → Int32) (k6 : Nat) (hj6 : j1 ≤ 384) (hk6 : 384 < j1 + (k6 + 1)) (hcn : cn ≤ j1) (c_1 : ¬ 384 ≤ nI j1) (n_5 : j1 < 384) (r_10 : Int32) (c_11 : ¬ r_10 = 0) (r_16 : Int32) (c_17 : ¬ r_16 = 0) : j1 < 384 := by
  first | assumption | omega | decide
theorem lf_X0_gather_d3_22 (a : Nat → Nat) (dm : Nat) (d0 : Nat → Int32) (d1 : Nat → Int32) (d2 : Nat → Int32) (d3 : Nat → Int32) (x1 : Nat) (x2 : Nat) (n3 : Int32) (hdm : dm ≤ 4) (hx1 : x1 < dm) (hx2 : x2 < dm) (j1 : Nat) (cn : Nat) (y6_a28 : Nat → Int32) (k6 : Nat) (hj6 : j1 ≤ 384) (hk6 : 384 < j1 + (k6 + 1)) (hcn : cn ≤ j1) (c_1 : ¬ 384 ≤ nI j1) (n_5 : j1 < 384) (r_10 : Int32) (c_11 : ¬ r_10 = 0) (r_16 : Int32) (c_17 : ¬ r_16 = 0) (r_21 : Int32) : x1 < 4 := by
  first | assumption | omega | decide
theorem lf_X0_gather_d3_23 (a : Nat → Nat) (dm : Nat) (d0 : Nat → Int32) (d1 : Nat → Int32) (d2 : Nat → Int32) (d3 : Nat → Int32) (x1 : Nat) (x2 : Nat) (n3 : Int32) (hdm : dm ≤ 4) (hx1 : x1 < dm) (hx2 : x2 < dm) (j1 : Nat) (cn : Nat) (y6_a28 : Nat → Int32) (k6 : Nat) (hj6 : j1 ≤ 384) (hk6 : 384 < j1 + (k6 + 1)) (hcn : cn ≤ j1) (c_1 : ¬ 384 ≤ nI j1) (n_5 : j1 < 384) (r_10 : Int32) (c_11 : ¬ r_10 = 0) (r_16 : Int32) (c_17 : ¬ r_16 = 0) (r_21 : Int32) : j1 < 384 := by
  first | assumption | omega | decide
theorem lf_X0_gather_d3_27 (a : Nat → Nat) (dm : Nat) (d0 : Nat → Int32) (d1 : Nat → Int32) (d2 : Nat → Int32) (d3 : Nat → Int32) (x1 : Nat) (x2 : Nat) (n3 : Int32) (hdm : dm ≤ 4) (hx1 : x1 < dm) (hx2 : x2 < dm) (j1 : Nat) (cn : Nat) (y6_a28 : Nat → Int32) (k6 : Nat) (hj6 : j1 ≤ 384) (hk6 : 384 < j1 + (k6 + 1)) (hcn : cn ≤ j1) (c_1 : ¬ 384 ≤ nI j1) (n_5 : j1 < 384) (r_10 : Int32) (c_11 : ¬ r_10 = 0) (r_16 : Int32) (c_17 : ¬ r_16 = 0) (r_21 : Int32) (r_24 : Int32) (x_25 : Int32) (ex_25 : x_25 = r_21 - r_24) : vp_in (nI cn) 384 := by
  first | exact vp_in_nI (by omega) (by decide) | (unfold vp_in; decide)
theorem lf_X0_gather_d3_28 (a : Nat → Nat) (dm : Nat) (d0 : Nat → Int32) (d1 : Nat → Int32) (d2 : Nat → Int32) (d3 : Nat → Int32) (x1 : Nat) (x2 : Nat) (n3 : Int32) (hdm : dm ≤ 4) (hx1 : x1 < dm) (hx2 : x2 < dm) (j1 : Nat) (cn : Nat) (y6_a28 : Nat → Int32) (k6 : Nat) (hj6 : j1 ≤ 384) (hk6 : 384 < j1 + (k6 + 1)) (hcn : cn ≤ j1) (c_1 : ¬ 384 ≤ nI j1) (n_5 : j1 < 384) (r_10 : Int32) (c_11 : ¬ r_10 = 0) (r_16 : Int32) (c_17 : ¬ r_16 = 0) (r_21 : Int32) (r_24 : Int32) (x_25 : Int32) (ex_25 : x_25 = r_21 - r_24) (f_26 : Nat → Int32) : ((cn + 1)) ≤ (j1 + 1) := by
  first | assumption | omega
theorem lf_X0_gather_d3_29 (a : Nat → Nat) (dm : Nat) (d0 : Nat → Int32) (d1 : Nat → Int32) (d2 : Nat → Int32) (d3 : Nat → Int32) (x1 : Nat) (x2 : Nat) (n3 : Int32) (hdm : dm ≤ 4) (hx1 : x1 < dm) (hx2 : x2 < dm) : 0 ≤ 0 := by
  first | assumption | omega
set_option maxHeartbeats 4000000 in
set_option maxRecDepth 100000 in
theorem c_X0_gather_d3 (l : Launch) (D : va_G) (cI cB cZ cJ : ClassId) (tx : List (ClassId × FieldType)) (a : Nat → Nat) (dm : Nat) (d0 : Nat → Int32) (d1 : Nat → Int32) (d2 : Nat → Int32) (d3 : Nat → Int32) (x1 : Nat) (x2 : Nat) (n3 : Int32) (hdm : dm ≤ 4) (hx1 : x1 < dm) (hx2 : x2 < dm) : WrI l D cI cB cZ cJ tx yX0_gather cX0_gather 7 (some .int) 3 0 0 [.ref (a 6), .int (nI x1), .int (nI x2), .int n3, .ref (a 28)] [(a 6, .inr (0, [.ref (a 5), .ref (a 25), .ref (a 26), .ref (a 27), .ref (a 28), .ref (a 29), .int (nI dm)])), (a 25, .inl (cI, 1536, .inl d0)), (a 26, .inl (cI, 1536, .inl d1)), (a 27, .inl (cZ, 1536, .inl d2)), (a 28, .inl (cI, 384, .inl d3))] (fun (r : Int32) (v : (Nat → Int32)) => ∃ m : Nat, m ≤ 384 ∧ r = nI m) (fun v => [(a 6, .inr (0, [.ref (a 5), .ref (a 25), .ref (a 26), .ref (a 27), .ref (a 28), .ref (a 29), .int (nI dm)])), (a 25, .inl (cI, 1536, .inl d0)), (a 26, .inl (cI, 1536, .inl d1)), (a 27, .inl (cZ, 1536, .inl d2)), (a 28, .inl (cI, 384, .inl v))]) := by
  refine wri_of2 (by decide) (Nat.le_of_ble_eq_true rfl) ?_
  intro p e s m below meth c A ls H locs hC hK hP hD hA hS hl
  obtain ⟨hx, hb, hr, hml, hown, hts, hlocks, hin⟩ := hC
  have hown : s.vm.findClass RX0 = some m.cls := hown
  have hl : lv_has ls 7 [(0, .ref (a 6)), (1, .int (nI x1)), (2, .int (nI x2)), (3, .int n3), (4, .ref (a 28))] := hl
  refine lv_iconst (v := 0) hx hb dX0_gather_0 (by decide) ?_
  refine lv_istore (lv' := [(5, .int 0), (0, .ref (a 6)), (1, .int (nI x1)), (2, .int (nI x2)), (3, .int n3), (4, .ref (a 28))]) hx hb dX0_gather_1 hl (by decide) rfl (fun ls hl => ?_)
  refine lv_iconst (v := 0) hx hb dX0_gather_3 (by decide) ?_
  refine lv_istore (lv' := [(6, .int 0), (5, .int 0), (0, .ref (a 6)), (1, .int (nI x1)), (2, .int (nI x2)), (3, .int n3), (4, .ref (a 28))]) hx hb dX0_gather_4 hl (by decide) rfl (fun ls hl => ?_)
  have lp6 : ∀ (k6 : Nat) (j1 : Nat) (cn : Nat) (y6_a28 : Nat → Int32) (H : Heap) (locs : List Loc) (ls : Array Slot), j1 ≤ 384 → 384 < j1 + k6 → (cn ≤ j1) → va_P D vwCl [(a 6, .inr (0, [.ref (a 5), .ref (a 25), .ref (a 26), .ref (a 27), .ref (a 28), .ref (a 29), .int (nI dm)])), (a 25, .inl (cI, 1536, .inl d0)), (a 26, .inl (cI, 1536, .inl d1)), (a 27, .inl (cZ, 1536, .inl d2)), (a 28, .inl (cI, 384, .inl y6_a28))] H → va_D A [(a 6, .inr (0, [.ref (a 5), .ref (a 25), .ref (a 26), .ref (a 27), .ref (a 28), .ref (a 29), .int (nI dm)])), (a 25, .inl (cI, 1536, .inl d0)), (a 26, .inl (cI, 1536, .inl d1)), (a 27, .inl (cZ, 1536, .inl d2)), (a 28, .inl (cI, 384, .inl y6_a28))] → va_S A s.heap H locs → lv_has ls 7 [(6, .int (nI j1)), (5, .int (nI cn)), (0, .ref (a 6)), (1, .int (nI x1)), (2, .int (nI x2)), (3, .int n3), (4, .ref (a 28))] → W p l e (rmX 3 0 0) s m ([.ref (a 6), .int (nI x1), .int (nI x2), .int n3, .ref (a 28)] : List Value).toArray below meth c H locs 0 0 (MQ below (va_Qi (fun (r : Int32) (v : (Nat → Int32)) => ∃ m : Nat, m ≤ 384 ∧ r = nI m) (fun u => BX D A ((fun v => [(a 6, .inr (0, [.ref (a 5), .ref (a 25), .ref (a 26), .ref (a 27), .ref (a 28), .ref (a 29), .int (nI dm)])), (a 25, .inl (cI, 1536, .inl d0)), (a 26, .inl (cI, 1536, .inl d1)), (a 27, .inl (cZ, 1536, .inl d2)), (a 28, .inl (cI, 384, .inl v))]) u)) A) ([.ref (a 6), .int (nI x1), .int (nI x2), .int n3, .ref (a 28)] : List Value).toArray s 0 0 A) (F0 m 6 ls []) := by
    intro k6
    induction k6 with
    | zero =>
      intro j1 cn y6_a28 H locs ls hj6 hk6 hcn hP hD hS hl
      exact absurd hk6 (by omega)
    | succ k6 ih6 =>
      intro j1 cn y6_a28 H locs ls hj6 hk6 hcn hP hD hS hl
      refine lv_iload hx hb dX0_gather_6 (lv_at hl 0 rfl) ?_
      refine lv_sipush (v := 384) hx hb dX0_gather_8 (by decide) ?_
      refine lv_icmp_ge (tgt := 65) hx hb dX0_gather_11 (by decide) (fun c_1 => ?_) (fun c_1 => ?_)
      · have n_2 : 384 ≤ j1 := (lf_X0_gather_d3_3 a dm d0 d1 d2 d3 x1 x2 n3 hdm hx1 hx2 j1 cn y6_a28 k6 hj6 hk6 hcn c_1)
        refine lv_iload hx hb dX0_gather_65 (lv_at hl 1 rfl) ?_
        exact W.iret (v := nI cn) hx hb hr (fun tt9 ht hW => ⟨⟨(nI cn : Int32), ((y6_a28 : Nat → Int32)), rfl, (lf_X0_gather_d3_4 a dm d0 d1 d2 d3 x1 x2 n3 hdm hx1 hx2 j1 cn y6_a28 k6 hj6 hk6 hcn c_1 n_2), ⟨by rw [ht]; exact hP, hD⟩⟩, hS.F ht⟩) hS.2.2 dX0_gather_67 hlocks
      · have n_5 : j1 < 384 := (lf_X0_gather_d3_6 a dm d0 d1 d2 d3 x1 x2 n3 hdm hx1 hx2 j1 cn y6_a28 k6 hj6 hk6 hcn c_1)
        refine lv_aload_n hx hb dX0_gather_14 rfl (lv_at hl 2 rfl) ?_
        refine lv_iload_n hx hb dX0_gather_15 rfl (lv_at hl 3 rfl) ?_
        refine lv_iload hx hb dX0_gather_16 (lv_at hl 0 rfl) ?_
        refine eRi (va_runV (As := [.int (nI x1), .int (nI j1)]) (rest := []) ⟨hx, hb, hml, hown, hts⟩ (c_X0_hasMark_g l D cI cB cZ cJ tx a dm d2 x1 j1 (lf_X0_gather_d3_7 a dm d0 d1 d2 d3 x1 x2 n3 hdm hx1 hx2 j1 cn y6_a28 k6 hj6 hk6 hcn c_1 n_5) (lf_X0_gather_d3_8 a dm d0 d1 d2 d3 x1 x2 n3 hdm hx1 hx2 j1 cn y6_a28 k6 hj6 hk6 hcn c_1 n_5) (lf_X0_gather_d3_9 a dm d0 d1 d2 d3 x1 x2 n3 hdm hx1 hx2 j1 cn y6_a28 k6 hj6 hk6 hcn c_1 n_5) H.size) (zV hts k_924 v_X0_hasMark ⟨Nat.le_of_ble_eq_true rfl, Nat.le_of_ble_eq_true rfl⟩) (pV (pxS hK hP hD [0, 3] (by decide) rfl) hK hP 0 rfl rfl) rfl rfl hl.1 rfl (lv_room (Nat.le_of_ble_eq_true rfl)) dX0_gather_18 ⟨Nat.le_of_ble_eq_true rfl, Nat.le_of_ble_eq_true rfl⟩) hP hS hA (fun r_10 H locs wr_10 hP hS => ?_)
        refine lv_if_eq (tgt := 59) hx hb dX0_gather_21 (by decide) (fun c_11 => ?_) (fun c_11 => ?_)
        · refine lv_iinc (v := nI (j1 + 1)) (lv' := [(6, .int (nI (j1 + 1))), (5, .int (nI cn)), (0, .ref (a 6)), (1, .int (nI x1)), (2, .int (nI x2)), (3, .int n3), (4, .ref (a 28))]) hx hb dX0_gather_59 hl (k := 0) rfl (nI_1 j1) (by decide) rfl (fun ls hl => ?_)
          refine lv_goto (tgt := 6) hx hb dX0_gather_62 (by decide) ?_
          exact ih6 (j1 + 1) cn y6_a28 H locs ls (by omega) (by omega) (lf_X0_gather_d3_12 a dm d0 d1 d2 d3 x1 x2 n3 hdm hx1 hx2 j1 cn y6_a28 k6 hj6 hk6 hcn c_1 n_5 r_10 c_11) (hP.sub [0, 1, 2, 3, 4] rfl) (hD.sub [0, 1, 2, 3, 4] (by decide) rfl) hS (lv_sub hl [0, 1, 2, 3, 4, 5, 6] rfl)
        · refine lv_aload_n hx hb dX0_gather_24 rfl (lv_at hl 2 rfl) ?_
          refine lv_iload_n hx hb dX0_gather_25 rfl (lv_at hl 4 rfl) ?_
          refine lv_iload hx hb dX0_gather_26 (lv_at hl 0 rfl) ?_
          refine eRi (va_runV (As := [.int (nI x2), .int (nI j1)]) (rest := []) ⟨hx, hb, hml, hown, hts⟩ (c_X0_hasMark_g l D cI cB cZ cJ tx a dm d2 x2 j1 (lf_X0_gather_d3_13 a dm d0 d1 d2 d3 x1 x2 n3 hdm hx1 hx2 j1 cn y6_a28 k6 hj6 hk6 hcn c_1 n_5 r_10 c_11) (lf_X0_gather_d3_14 a dm d0 d1 d2 d3 x1 x2 n3 hdm hx1 hx2 j1 cn y6_a28 k6 hj6 hk6 hcn c_1 n_5 r_10 c_11) (lf_X0_gather_d3_15 a dm d0 d1 d2 d3 x1 x2 n3 hdm hx1 hx2 j1 cn y6_a28 k6 hj6 hk6 hcn c_1 n_5 r_10 c_11) H.size) (zV hts k_924 v_X0_hasMark ⟨Nat.le_of_ble_eq_true rfl, Nat.le_of_ble_eq_true rfl⟩) (pV (pxS hK hP hD [0, 3] (by decide) rfl) hK hP 0 rfl rfl) rfl rfl hl.1 rfl (lv_room (Nat.le_of_ble_eq_true rfl)) dX0_gather_28 ⟨Nat.le_of_ble_eq_true rfl, Nat.le_of_ble_eq_true rfl⟩) hP hS hA (fun r_16 H locs wr_16 hP hS => ?_)
          refine lv_if_eq (tgt := 59) hx hb dX0_gather_31 (by decide) (fun c_17 => ?_) (fun c_17 => ?_)
          · refine lv_iinc (v := nI (j1 + 1)) (lv' := [(6, .int (nI (j1 + 1))), (5, .int (nI cn)), (0, .ref (a 6)), (1, .int (nI x1)), (2, .int (nI x2)), (3, .int n3), (4, .ref (a 28))]) hx hb dX0_gather_59 hl (k := 0) rfl (nI_1 j1) (by decide) rfl (fun ls hl => ?_)
            refine lv_goto (tgt := 6) hx hb dX0_gather_62 (by decide) ?_
            exact ih6 (j1 + 1) cn y6_a28 H locs ls (by omega) (by omega) (lf_X0_gather_d3_18 a dm d0 d1 d2 d3 x1 x2 n3 hdm hx1 hx2 j1 cn y6_a28 k6 hj6 hk6 hcn c_1 n_5 r_10 c_11 r_16 c_17) (hP.sub [0, 1, 2, 3, 4] rfl) (hD.sub [0, 1, 2, 3, 4] (by decide) rfl) hS (lv_sub hl [0, 1, 2, 3, 4, 5, 6] rfl)
          · refine lv_aload hx hb dX0_gather_34 (lv_at hl 6 rfl) ?_
            refine lv_iload hx hb dX0_gather_36 (lv_at hl 1 rfl) ?_
            refine lv_aload_n hx hb dX0_gather_38 rfl (lv_at hl 2 rfl) ?_
            refine lv_iload_n hx hb dX0_gather_39 rfl (lv_at hl 4 rfl) ?_
            refine lv_iload hx hb dX0_gather_40 (lv_at hl 0 rfl) ?_
            refine lv_iload_n hx hb dX0_gather_42 rfl (lv_at hl 5 rfl) ?_
            refine eRi (va_runV (As := [.int (nI x2), .int (nI j1), .int n3]) (rest := [.int (nI cn), .ref (a 28)]) ⟨hx, hb, hml, hown, hts⟩ (c_X0_at l D cI cB cZ cJ tx a dm d0 d1 x2 j1 n3 (lf_X0_gather_d3_19 a dm d0 d1 d2 d3 x1 x2 n3 hdm hx1 hx2 j1 cn y6_a28 k6 hj6 hk6 hcn c_1 n_5 r_10 c_11 r_16 c_17) (lf_X0_gather_d3_20 a dm d0 d1 d2 d3 x1 x2 n3 hdm hx1 hx2 j1 cn y6_a28 k6 hj6 hk6 hcn c_1 n_5 r_10 c_11 r_16 c_17) H.size) (zV hts k_955 v_X0_at ⟨Nat.le_of_ble_eq_true rfl, Nat.le_of_ble_eq_true rfl⟩) (pV (pxS hK hP hD [0, 1, 2] (by decide) rfl) hK hP 0 rfl rfl) rfl rfl hl.1 rfl (lv_room (Nat.le_of_ble_eq_true rfl)) dX0_gather_43 ⟨Nat.le_of_ble_eq_true rfl, Nat.le_of_ble_eq_true rfl⟩) hP hS hA (fun r_21 H locs wr_21 hP hS => ?_)
            refine lv_aload_n hx hb dX0_gather_46 rfl (lv_at hl 2 rfl) ?_
            refine lv_iload_n hx hb dX0_gather_47 rfl (lv_at hl 3 rfl) ?_
            refine lv_iload hx hb dX0_gather_48 (lv_at hl 0 rfl) ?_
            refine lv_iload_n hx hb dX0_gather_50 rfl (lv_at hl 5 rfl) ?_
            refine eRi (va_runV (As := [.int (nI x1), .int (nI j1), .int n3]) (rest := [.int r_21, .int (nI cn), .ref (a 28)]) ⟨hx, hb, hml, hown, hts⟩ (c_X0_at l D cI cB cZ cJ tx a dm d0 d1 x1 j1 n3 (lf_X0_gather_d3_22 a dm d0 d1 d2 d3 x1 x2 n3 hdm hx1 hx2 j1 cn y6_a28 k6 hj6 hk6 hcn c_1 n_5 r_10 c_11 r_16 c_17 r_21) (lf_X0_gather_d3_23 a dm d0 d1 d2 d3 x1 x2 n3 hdm hx1 hx2 j1 cn y6_a28 k6 hj6 hk6 hcn c_1 n_5 r_10 c_11 r_16 c_17 r_21) H.size) (zV hts k_955 v_X0_at ⟨Nat.le_of_ble_eq_true rfl, Nat.le_of_ble_eq_true rfl⟩) (pV (pxS hK hP hD [0, 1, 2] (by decide) rfl) hK hP 0 rfl rfl) rfl rfl hl.1 rfl (lv_room (Nat.le_of_ble_eq_true rfl)) dX0_gather_51 ⟨Nat.le_of_ble_eq_true rfl, Nat.le_of_ble_eq_true rfl⟩) hP hS hA (fun r_24 H locs wr_24 hP hS => ?_)
            refine lv_isub hx hb dX0_gather_54 ?_
            refine lv_topi (fun x_25 ex_25 => ?_)
            refine st_i hx hb hK hP hD hS 4 rfl (lf_X0_gather_d3_27 a dm d0 d1 d2 d3 x1 x2 n3 hdm hx1 hx2 j1 cn y6_a28 k6 hj6 hk6 hcn c_1 n_5 r_10 c_11 r_16 c_17 r_21 r_24 x_25 ex_25) dX0_gather_55 (fun f_26 H locs hP hD hS => ?_)
            have hP : va_P D vwCl [(a 6, .inr (0, [.ref (a 5), .ref (a 25), .ref (a 26), .ref (a 27), .ref (a 28), .ref (a 29), .int (nI dm)])), (a 25, .inl (cI, 1536, .inl d0)), (a 26, .inl (cI, 1536, .inl d1)), (a 27, .inl (cZ, 1536, .inl d2)), (a 28, .inl (cI, 384, .inl f_26))] H := hP
            have hD : va_D A [(a 6, .inr (0, [.ref (a 5), .ref (a 25), .ref (a 26), .ref (a 27), .ref (a 28), .ref (a 29), .int (nI dm)])), (a 25, .inl (cI, 1536, .inl d0)), (a 26, .inl (cI, 1536, .inl d1)), (a 27, .inl (cZ, 1536, .inl d2)), (a 28, .inl (cI, 384, .inl f_26))] := hD
            refine lv_iinc (v := nI (cn + 1)) (lv' := [(5, .int (nI (cn + 1))), (6, .int (nI j1)), (0, .ref (a 6)), (1, .int (nI x1)), (2, .int (nI x2)), (3, .int n3), (4, .ref (a 28))]) hx hb dX0_gather_56 hl (k := 1) rfl (nI_1 cn) (by decide) rfl (fun ls hl => ?_)
            refine lv_iinc (v := nI (j1 + 1)) (lv' := [(6, .int (nI (j1 + 1))), (5, .int (nI (cn + 1))), (0, .ref (a 6)), (1, .int (nI x1)), (2, .int (nI x2)), (3, .int n3), (4, .ref (a 28))]) hx hb dX0_gather_59 hl (k := 1) rfl (nI_1 j1) (by decide) rfl (fun ls hl => ?_)
            refine lv_goto (tgt := 6) hx hb dX0_gather_62 (by decide) ?_
            exact ih6 (j1 + 1) (cn + 1) f_26 H locs ls (by omega) (by omega) (lf_X0_gather_d3_28 a dm d0 d1 d2 d3 x1 x2 n3 hdm hx1 hx2 j1 cn y6_a28 k6 hj6 hk6 hcn c_1 n_5 r_10 c_11 r_16 c_17 r_21 r_24 x_25 ex_25 f_26) (hP.sub [0, 1, 2, 3, 4] rfl) (hD.sub [0, 1, 2, 3, 4] (by decide) rfl) hS (lv_sub hl [0, 1, 2, 3, 4, 5, 6] rfl)
  exact lp6 (384 + 1) 0 0 d3 H locs ls (by omega) (by omega) (lf_X0_gather_d3_29 a dm d0 d1 d2 d3 x1 x2 n3 hdm hx1 hx2) (hP.sub [0, 1, 2, 3, 4] rfl) (hD.sub [0, 1, 2, 3, 4] (by decide) rfl) hS (lv_sub hl [0, 1, 2, 3, 4, 5, 6] rfl)

theorem lf_X0_gather_d4_3 (a : Nat → Nat) (dm : Nat) (d0 : Nat → Int32) (d1 : Nat → Int32) (d2 : Nat → Int32) (d4 : Nat → Int32) (x1 : Nat) (x2 : Nat) (n3 : Int32) (hdm : dm ≤ 4) (hx1 : x1 < dm) (hx2 : x2 < dm) (j1 : Nat) (cn : Nat) (y6_a29 : Nat → Int32) (k6 : Nat) (hj6 : j1 ≤ 384) (hk6 : 384 < j1 + (k6 + 1)) (hcn : cn ≤ j1) (c_1 : 384 ≤ nI j1) : 384 ≤ j1 := by
  exact (nI_leI (a := 384) (b := j1) (by omega) (by omega)).mp c_1
theorem lf_X0_gather_d4_4 (a : Nat → Nat) (dm : Nat) (d0 : Nat → Int32) (d1 : Nat → Int32) (d2 : Nat → Int32) (d4 : Nat → Int32) (x1 : Nat) (x2 : Nat) (n3 : Int32) (hdm : dm ≤ 4) (hx1 : x1 < dm) (hx2 : x2 < dm) (j1 : Nat) (cn : Nat) (y6_a29 : Nat → Int32) (k6 : Nat) (hj6 : j1 ≤ 384) (hk6 : 384 < j1 + (k6 + 1)) (hcn : cn ≤ j1) (c_1 : 384 ≤ nI j1) (n_2 : 384 ≤ j1) : ∃ m : Nat, m ≤ 384 ∧ (nI cn : Int32) = nI m := by
  exact ⟨_, by omega, rfl⟩
theorem lf_X0_gather_d4_6 (a : Nat → Nat) (dm : Nat) (d0 : Nat → Int32) (d1 : Nat → Int32) (d2 : Nat → Int32) (d4 : Nat → Int32) (x1 : Nat) (x2 : Nat) (n3 : Int32) (hdm : dm ≤ 4) (hx1 : x1 < dm) (hx2 : x2 < dm) (j1 : Nat) (cn : Nat) (y6_a29 : Nat → Int32) (k6 : Nat) (hj6 : j1 ≤ 384) (hk6 : 384 < j1 + (k6 + 1)) (hcn : cn ≤ j1) (c_1 : ¬ 384 ≤ nI j1) : j1 < 384 := by
  exact Nat.lt_of_not_le (fun q => c_1 ((nI_leI (a := 384) (b := j1) (by omega) (by omega)).mpr q))
theorem lf_X0_gather_d4_7 (a : Nat → Nat) (dm : Nat) (d0 : Nat → Int32) (d1 : Nat → Int32) (d2 : Nat → Int32) (d4 : Nat → Int32) (x1 : Nat) (x2 : Nat) (n3 : Int32) (hdm : dm ≤ 4) (hx1 : x1 < dm) (hx2 : x2 < dm) (j1 : Nat) (cn : Nat) (y6_a29 : Nat → Int32) (k6 : Nat) (hj6 : j1 ≤ 384) (hk6 : 384 < j1 + (k6 + 1)) (hcn : cn ≤ j1) (c_1 : ¬ 384 ≤ nI j1) (n_5 : j1 < 384) : dm ≤ 4 := by
  first | assumption | omega | decide
theorem lf_X0_gather_d4_8 (a : Nat → Nat) (dm : Nat) (d0 : Nat → Int32) (d1 : Nat → Int32) (d2 : Nat → Int32) (d4 : Nat → Int32) (x1 : Nat) (x2 : Nat) (n3 : Int32) (hdm : dm ≤ 4) (hx1 : x1 < dm) (hx2 : x2 < dm) (j1 : Nat) (cn : Nat) (y6_a29 : Nat → Int32) (k6 : Nat) (hj6 : j1 ≤ 384) (hk6 : 384 < j1 + (k6 + 1)) (hcn : cn ≤ j1) (c_1 : ¬ 384 ≤ nI j1) (n_5 : j1 < 384) : x1 < dm := by
  first | assumption | omega | decide
theorem lf_X0_gather_d4_9 (a : Nat → Nat) (dm : Nat) (d0 : Nat → Int32) (d1 : Nat → Int32) (d2 : Nat → Int32) (d4 : Nat → Int32) (x1 : Nat) (x2 : Nat) (n3 : Int32) (hdm : dm ≤ 4) (hx1 : x1 < dm) (hx2 : x2 < dm) (j1 : Nat) (cn : Nat) (y6_a29 : Nat → Int32) (k6 : Nat) (hj6 : j1 ≤ 384) (hk6 : 384 < j1 + (k6 + 1)) (hcn : cn ≤ j1) (c_1 : ¬ 384 ≤ nI j1) (n_5 : j1 < 384) : j1 < 384 := by
  first | assumption | omega | decide
theorem lf_X0_gather_d4_12 (a : Nat → Nat) (dm : Nat) (d0 : Nat → Int32) (d1 : Nat → Int32) (d2 : Nat → Int32) (d4 : Nat → Int32) (x1 : Nat) (x2 : Nat) (n3 : Int32) (hdm : dm ≤ 4) (hx1 : x1 < dm) (hx2 : x2 < dm) (j1 : Nat) (cn : Nat) (y6_a29 : Nat → Int32) (k6 : Nat) (hj6 : j1 ≤ 384) (hk6 : 384 < j1 + (k6 + 1)) (hcn : cn ≤ j1) (c_1 : ¬ 384 ≤ nI j1) (n_5 : j1 < 384) (r_10 : Int32) (c_11 : r_10 = 0) : cn ≤ (j1 + 1) := by
  first | assumption | omega
theorem lf_X0_gather_d4_13 (a : Nat → Nat) (dm : Nat) (d0 : Nat → Int32) (d1 : Nat → Int32) (d2 : Nat → Int32) (d4 : Nat → Int32) (x1 : Nat) (x2 : Nat) (n3 : Int32) (hdm : dm ≤ 4) (hx1 : x1 < dm) (hx2 : x2 < dm) (j1 : Nat) (cn : Nat) (y6_a29 : Nat → Int32) (k6 : Nat) (hj6 : j1 ≤ 384) (hk6 : 384 < j1 + (k6 + 1)) (hcn : cn ≤ j1) (c_1 : ¬ 384 ≤ nI j1) (n_5 : j1 < 384) (r_10 : Int32) (c_11 : ¬ r_10 = 0) : dm ≤ 4 := by
  first | assumption | omega | decide
theorem lf_X0_gather_d4_14 (a : Nat → Nat) (dm : Nat) (d0 : Nat → Int32) (d1 : Nat → Int32) (d2 : Nat → Int32) (d4 : Nat → Int32) (x1 : Nat) (x2 : Nat) (n3 : Int32) (hdm : dm ≤ 4) (hx1 : x1 < dm) (hx2 : x2 < dm) (j1 : Nat) (cn : Nat) (y6_a29 : Nat → Int32) (k6 : Nat) (hj6 : j1 ≤ 384) (hk6 : 384 < j1 + (k6 + 1)) (hcn : cn ≤ j1) (c_1 : ¬ 384 ≤ nI j1) (n_5 : j1 < 384) (r_10 : Int32) (c_11 : ¬ r_10 = 0) : x2 < dm := by
  first | assumption | omega | decide
theorem lf_X0_gather_d4_15 (a : Nat → Nat) (dm : Nat) (d0 : Nat → Int32) (d1 : Nat → Int32) (d2 : Nat → Int32) (d4 : Nat → Int32) (x1 : Nat) (x2 : Nat) (n3 : Int32) (hdm : dm ≤ 4) (hx1 : x1 < dm) (hx2 : x2 < dm) (j1 : Nat) (cn : Nat) (y6_a29 : Nat → Int32) (k6 : Nat) (hj6 : j1 ≤ 384) (hk6 : 384 < j1 + (k6 + 1)) (hcn : cn ≤ j1) (c_1 : ¬ 384 ≤ nI j1) (n_5 : j1 < 384) (r_10 : Int32) (c_11 : ¬ r_10 = 0) : j1 < 384 := by
  first | assumption | omega | decide
theorem lf_X0_gather_d4_18 (a : Nat → Nat) (dm : Nat) (d0 : Nat → Int32) (d1 : Nat → Int32) (d2 : Nat → Int32) (d4 : Nat → Int32) (x1 : Nat) (x2 : Nat) (n3 : Int32) (hdm : dm ≤ 4) (hx1 : x1 < dm) (hx2 : x2 < dm) (j1 : Nat) (cn : Nat) (y6_a29 : Nat → Int32) (k6 : Nat) (hj6 : j1 ≤ 384) (hk6 : 384 < j1 + (k6 + 1)) (hcn : cn ≤ j1) (c_1 : ¬ 384 ≤ nI j1) (n_5 : j1 < 384) (r_10 : Int32) (c_11 : ¬ r_10 = 0) (r_16 : Int32) (c_17 : r_16 = 0) : cn ≤ (j1 + 1) := by
  first | assumption | omega
theorem lf_X0_gather_d4_19 (a : Nat → Nat) (dm : Nat) (d0 : Nat → Int32) (d1 : Nat → Int32) (d2 : Nat → Int32) (d4 : Nat → Int32) (x1 : Nat) (x2 : Nat) (n3 : Int32) (hdm : dm ≤ 4) (hx1 : x1 < dm) (hx2 : x2 < dm) (j1 : Nat) (cn : Nat) (y6_a29 : Nat → Int32) (k6 : Nat) (hj6 : j1 ≤ 384) (hk6 : 384 < j1 + (k6 + 1)) (hcn : cn ≤ j1) (c_1 : ¬ 384 ≤ nI j1) (n_5 : j1 < 384) (r_10 : Int32) (c_11 : ¬ r_10 = 0) (r_16 : Int32) (c_17 : ¬ r_16 = 0) : x2 < 4 := by
  first | assumption | omega | decide
theorem lf_X0_gather_d4_20 (a : Nat → Nat) (dm : Nat) (d0 : Nat → Int32) (d1 : Nat → Int32) (d2 : Nat → Int32) (d4 : Nat → Int32) (x1 : Nat) (x2 : Nat) (n3 : Int32) (hdm : dm ≤ 4) (hx1 : x1 < dm) (hx2 : x2 < dm) (j1 : Nat) (cn : Nat) (y6_a29 : Nat → Int32) (k6 : Nat) (hj6 : j1 ≤ 384) (hk6 : 384 < j1 + (k6 + 1)) (hcn : cn ≤ j1) (c_1 : ¬ 384 ≤ nI j1) (n_5 : j1 < 384) (r_10 : Int32) (c_11 : ¬ r_10 = 0) (r_16 : Int32) (c_17 : ¬ r_16 = 0) : j1 < 384 := by
  first | assumption | omega | decide
theorem lf_X0_gather_d4_22 (a : Nat → Nat) (dm : Nat) (d0 : Nat → Int32) (d1 : Nat → Int32) (d2 : Nat → Int32) (d4 : Nat → Int32) (x1 : Nat) (x2 : Nat) (n3 : Int32) (hdm : dm ≤ 4) (hx1 : x1 < dm) (hx2 : x2 < dm) (j1 : Nat) (cn : Nat) (y6_a29 : Nat → Int32) (k6 : Nat) (hj6 : j1 ≤ 384) (hk6 : 384 < j1 + (k6 + 1)) (hcn : cn ≤ j1) (c_1 : ¬ 384 ≤ nI j1) (n_5 : j1 < 384) (r_10 : Int32) (c_11 : ¬ r_10 = 0) (r_16 : Int32) (c_17 : ¬ r_16 = 0) (r_21 : Int32) : x1 < 4 := by
  first | assumption | omega | decide
theorem lf_X0_gather_d4_23 (a : Nat → Nat) (dm : Nat) (d0 : Nat → Int32) (d1 : Nat → Int32) (d2 : Nat → Int32) (d4 : Nat → Int32) (x1 : Nat) (x2 : Nat) (n3 : Int32) (hdm : dm ≤ 4) (hx1 : x1 < dm) (hx2 : x2 < dm) (j1 : Nat) (cn : Nat) (y6_a29 : Nat → Int32) (k6 : Nat) (hj6 : j1 ≤ 384) (hk6 : 384 < j1 + (k6 + 1)) (hcn : cn ≤ j1) (c_1 : ¬ 384 ≤ nI j1) (n_5 : j1 < 384) (r_10 : Int32) (c_11 : ¬ r_10 = 0) (r_16 : Int32) (c_17 : ¬ r_16 = 0) (r_21 : Int32) : j1 < 384 := by
  first | assumption | omega | decide
theorem lf_X0_gather_d4_27 (a : Nat → Nat) (dm : Nat) (d0 : Nat → Int32) (d1 : Nat → Int32) (d2 : Nat → Int32) (d4 : Nat → Int32) (x1 : Nat) (x2 : Nat) (n3 : Int32) (hdm : dm ≤ 4) (hx1 : x1 < dm) (hx2 : x2 < dm) (j1 : Nat) (cn : Nat) (y6_a29 : Nat → Int32) (k6 : Nat) (hj6 : j1 ≤ 384) (hk6 : 384 < j1 + (k6 + 1)) (hcn : cn ≤ j1) (c_1 : ¬ 384 ≤ nI j1) (n_5 : j1 < 384) (r_10 : Int32) (c_11 : ¬ r_10 = 0) (r_16 : Int32) (c_17 : ¬ r_16 = 0) (r_21 : Int32) (r_24 : Int32) (x_25 : Int32) (ex_25 : x_25 = r_21 - r_24) : vp_in (nI cn) 384 := by
  first | exact vp_in_nI (by omega) (by decide) | (unfold vp_in; decide)
theorem lf_X0_gather_d4_28 (a : Nat → Nat) (dm : Nat) (d0 : Nat → Int32) (d1 : Nat → Int32) (d2 : Nat → Int32) (d4 : Nat → Int32) (x1 : Nat) (x2 : Nat) (n3 : Int32) (hdm : dm ≤ 4) (hx1 : x1 < dm) (hx2 : x2 < dm) (j1 : Nat) (cn : Nat) (y6_a29 : Nat → Int32) (k6 : Nat) (hj6 : j1 ≤ 384) (hk6 : 384 < j1 + (k6 + 1)) (hcn : cn ≤ j1) (c_1 : ¬ 384 ≤ nI j1) (n_5 : j1 < 384) (r_10 : Int32) (c_11 : ¬ r_10 = 0) (r_16 : Int32) (c_17 : ¬ r_16 = 0) (r_21 : Int32) (r_24 : Int32) (x_25 : Int32) (ex_25 : x_25 = r_21 - r_24) (f_26 : Nat → Int32) : ((cn + 1)) ≤ (j1 + 1) := by
  first | assumption | omega
theorem lf_X0_gather_d4_29 (a : Nat → Nat) (dm : Nat) (d0 : Nat → Int32) (d1 : Nat → Int32) (d2 : Nat → Int32) (d4 : Nat → Int32) (x1 : Nat) (x2 : Nat) (n3 : Int32) (hdm : dm ≤ 4) (hx1 : x1 < dm) (hx2 : x2 < dm) : 0 ≤ 0 := by
  first | assumption | omega
set_option maxHeartbeats 4000000 in
set_option maxRecDepth 100000 in
theorem c_X0_gather_d4 (l : Launch) (D : va_G) (cI cB cZ cJ : ClassId) (tx : List (ClassId × FieldType)) (a : Nat → Nat) (dm : Nat) (d0 : Nat → Int32) (d1 : Nat → Int32) (d2 : Nat → Int32) (d4 : Nat → Int32) (x1 : Nat) (x2 : Nat) (n3 : Int32) (hdm : dm ≤ 4) (hx1 : x1 < dm) (hx2 : x2 < dm) : WrI l D cI cB cZ cJ tx yX0_gather cX0_gather 7 (some .int) 3 0 0 [.ref (a 6), .int (nI x1), .int (nI x2), .int n3, .ref (a 29)] [(a 6, .inr (0, [.ref (a 5), .ref (a 25), .ref (a 26), .ref (a 27), .ref (a 28), .ref (a 29), .int (nI dm)])), (a 25, .inl (cI, 1536, .inl d0)), (a 26, .inl (cI, 1536, .inl d1)), (a 27, .inl (cZ, 1536, .inl d2)), (a 29, .inl (cI, 384, .inl d4))] (fun (r : Int32) (v : (Nat → Int32)) => ∃ m : Nat, m ≤ 384 ∧ r = nI m) (fun v => [(a 6, .inr (0, [.ref (a 5), .ref (a 25), .ref (a 26), .ref (a 27), .ref (a 28), .ref (a 29), .int (nI dm)])), (a 25, .inl (cI, 1536, .inl d0)), (a 26, .inl (cI, 1536, .inl d1)), (a 27, .inl (cZ, 1536, .inl d2)), (a 29, .inl (cI, 384, .inl v))]) := by
  refine wri_of2 (by decide) (Nat.le_of_ble_eq_true rfl) ?_
  intro p e s m below meth c A ls H locs hC hK hP hD hA hS hl
  obtain ⟨hx, hb, hr, hml, hown, hts, hlocks, hin⟩ := hC
  have hown : s.vm.findClass RX0 = some m.cls := hown
  have hl : lv_has ls 7 [(0, .ref (a 6)), (1, .int (nI x1)), (2, .int (nI x2)), (3, .int n3), (4, .ref (a 29))] := hl
  refine lv_iconst (v := 0) hx hb dX0_gather_0 (by decide) ?_
  refine lv_istore (lv' := [(5, .int 0), (0, .ref (a 6)), (1, .int (nI x1)), (2, .int (nI x2)), (3, .int n3), (4, .ref (a 29))]) hx hb dX0_gather_1 hl (by decide) rfl (fun ls hl => ?_)
  refine lv_iconst (v := 0) hx hb dX0_gather_3 (by decide) ?_
  refine lv_istore (lv' := [(6, .int 0), (5, .int 0), (0, .ref (a 6)), (1, .int (nI x1)), (2, .int (nI x2)), (3, .int n3), (4, .ref (a 29))]) hx hb dX0_gather_4 hl (by decide) rfl (fun ls hl => ?_)
  have lp6 : ∀ (k6 : Nat) (j1 : Nat) (cn : Nat) (y6_a29 : Nat → Int32) (H : Heap) (locs : List Loc) (ls : Array Slot), j1 ≤ 384 → 384 < j1 + k6 → (cn ≤ j1) → va_P D vwCl [(a 6, .inr (0, [.ref (a 5), .ref (a 25), .ref (a 26), .ref (a 27), .ref (a 28), .ref (a 29), .int (nI dm)])), (a 25, .inl (cI, 1536, .inl d0)), (a 26, .inl (cI, 1536, .inl d1)), (a 27, .inl (cZ, 1536, .inl d2)), (a 29, .inl (cI, 384, .inl y6_a29))] H → va_D A [(a 6, .inr (0, [.ref (a 5), .ref (a 25), .ref (a 26), .ref (a 27), .ref (a 28), .ref (a 29), .int (nI dm)])), (a 25, .inl (cI, 1536, .inl d0)), (a 26, .inl (cI, 1536, .inl d1)), (a 27, .inl (cZ, 1536, .inl d2)), (a 29, .inl (cI, 384, .inl y6_a29))] → va_S A s.heap H locs → lv_has ls 7 [(6, .int (nI j1)), (5, .int (nI cn)), (0, .ref (a 6)), (1, .int (nI x1)), (2, .int (nI x2)), (3, .int n3), (4, .ref (a 29))] → W p l e (rmX 3 0 0) s m ([.ref (a 6), .int (nI x1), .int (nI x2), .int n3, .ref (a 29)] : List Value).toArray below meth c H locs 0 0 (MQ below (va_Qi (fun (r : Int32) (v : (Nat → Int32)) => ∃ m : Nat, m ≤ 384 ∧ r = nI m) (fun u => BX D A ((fun v => [(a 6, .inr (0, [.ref (a 5), .ref (a 25), .ref (a 26), .ref (a 27), .ref (a 28), .ref (a 29), .int (nI dm)])), (a 25, .inl (cI, 1536, .inl d0)), (a 26, .inl (cI, 1536, .inl d1)), (a 27, .inl (cZ, 1536, .inl d2)), (a 29, .inl (cI, 384, .inl v))]) u)) A) ([.ref (a 6), .int (nI x1), .int (nI x2), .int n3, .ref (a 29)] : List Value).toArray s 0 0 A) (F0 m 6 ls []) := by
    intro k6
    induction k6 with
    | zero =>
      intro j1 cn y6_a29 H locs ls hj6 hk6 hcn hP hD hS hl
      exact absurd hk6 (by omega)
    | succ k6 ih6 =>
      intro j1 cn y6_a29 H locs ls hj6 hk6 hcn hP hD hS hl
      refine lv_iload hx hb dX0_gather_6 (lv_at hl 0 rfl) ?_
      refine lv_sipush (v := 384) hx hb dX0_gather_8 (by decide) ?_
      refine lv_icmp_ge (tgt := 65) hx hb dX0_gather_11 (by decide) (fun c_1 => ?_) (fun c_1 => ?_)
      · have n_2 : 384 ≤ j1 := (lf_X0_gather_d4_3 a dm d0 d1 d2 d4 x1 x2 n3 hdm hx1 hx2 j1 cn y6_a29 k6 hj6 hk6 hcn c_1)
        refine lv_iload hx hb dX0_gather_65 (lv_at hl 1 rfl) ?_
        exact W.iret (v := nI cn) hx hb hr (fun tt9 ht hW => ⟨⟨(nI cn : Int32), ((y6_a29 : Nat → Int32)), rfl, (lf_X0_gather_d4_4 a dm d0 d1 d2 d4 x1 x2 n3 hdm hx1 hx2 j1 cn y6_a29 k6 hj6 hk6 hcn c_1 n_2), ⟨by rw [ht]; exact hP, hD⟩⟩, hS.F ht⟩) hS.2.2 dX0_gather_67 hlocks
      · have n_5 : j1 < 384 := (lf_X0_gather_d4_6 a dm d0 d1 d2 d4 x1 x2 n3 hdm hx1 hx2 j1 cn y6_a29 k6 hj6 hk6 hcn c_1)
        refine lv_aload_n hx hb dX0_gather_14 rfl (lv_at hl 2 rfl) ?_
        refine lv_iload_n hx hb dX0_gather_15 rfl (lv_at hl 3 rfl) ?_
        refine lv_iload hx hb dX0_gather_16 (lv_at hl 0 rfl) ?_
        refine eRi (va_runV (As := [.int (nI x1), .int (nI j1)]) (rest := []) ⟨hx, hb, hml, hown, hts⟩ (c_X0_hasMark_g l D cI cB cZ cJ tx a dm d2 x1 j1 (lf_X0_gather_d4_7 a dm d0 d1 d2 d4 x1 x2 n3 hdm hx1 hx2 j1 cn y6_a29 k6 hj6 hk6 hcn c_1 n_5) (lf_X0_gather_d4_8 a dm d0 d1 d2 d4 x1 x2 n3 hdm hx1 hx2 j1 cn y6_a29 k6 hj6 hk6 hcn c_1 n_5) (lf_X0_gather_d4_9 a dm d0 d1 d2 d4 x1 x2 n3 hdm hx1 hx2 j1 cn y6_a29 k6 hj6 hk6 hcn c_1 n_5) H.size) (zV hts k_924 v_X0_hasMark ⟨Nat.le_of_ble_eq_true rfl, Nat.le_of_ble_eq_true rfl⟩) (pV (pxS hK hP hD [0, 3] (by decide) rfl) hK hP 0 rfl rfl) rfl rfl hl.1 rfl (lv_room (Nat.le_of_ble_eq_true rfl)) dX0_gather_18 ⟨Nat.le_of_ble_eq_true rfl, Nat.le_of_ble_eq_true rfl⟩) hP hS hA (fun r_10 H locs wr_10 hP hS => ?_)
        refine lv_if_eq (tgt := 59) hx hb dX0_gather_21 (by decide) (fun c_11 => ?_) (fun c_11 => ?_)
        · refine lv_iinc (v := nI (j1 + 1)) (lv' := [(6, .int (nI (j1 + 1))), (5, .int (nI cn)), (0, .ref (a 6)), (1, .int (nI x1)), (2, .int (nI x2)), (3, .int n3), (4, .ref (a 29))]) hx hb dX0_gather_59 hl (k := 0) rfl (nI_1 j1) (by decide) rfl (fun ls hl => ?_)
          refine lv_goto (tgt := 6) hx hb dX0_gather_62 (by decide) ?_
          exact ih6 (j1 + 1) cn y6_a29 H locs ls (by omega) (by omega) (lf_X0_gather_d4_12 a dm d0 d1 d2 d4 x1 x2 n3 hdm hx1 hx2 j1 cn y6_a29 k6 hj6 hk6 hcn c_1 n_5 r_10 c_11) (hP.sub [0, 1, 2, 3, 4] rfl) (hD.sub [0, 1, 2, 3, 4] (by decide) rfl) hS (lv_sub hl [0, 1, 2, 3, 4, 5, 6] rfl)
        · refine lv_aload_n hx hb dX0_gather_24 rfl (lv_at hl 2 rfl) ?_
          refine lv_iload_n hx hb dX0_gather_25 rfl (lv_at hl 4 rfl) ?_
          refine lv_iload hx hb dX0_gather_26 (lv_at hl 0 rfl) ?_
          refine eRi (va_runV (As := [.int (nI x2), .int (nI j1)]) (rest := []) ⟨hx, hb, hml, hown, hts⟩ (c_X0_hasMark_g l D cI cB cZ cJ tx a dm d2 x2 j1 (lf_X0_gather_d4_13 a dm d0 d1 d2 d4 x1 x2 n3 hdm hx1 hx2 j1 cn y6_a29 k6 hj6 hk6 hcn c_1 n_5 r_10 c_11) (lf_X0_gather_d4_14 a dm d0 d1 d2 d4 x1 x2 n3 hdm hx1 hx2 j1 cn y6_a29 k6 hj6 hk6 hcn c_1 n_5 r_10 c_11) (lf_X0_gather_d4_15 a dm d0 d1 d2 d4 x1 x2 n3 hdm hx1 hx2 j1 cn y6_a29 k6 hj6 hk6 hcn c_1 n_5 r_10 c_11) H.size) (zV hts k_924 v_X0_hasMark ⟨Nat.le_of_ble_eq_true rfl, Nat.le_of_ble_eq_true rfl⟩) (pV (pxS hK hP hD [0, 3] (by decide) rfl) hK hP 0 rfl rfl) rfl rfl hl.1 rfl (lv_room (Nat.le_of_ble_eq_true rfl)) dX0_gather_28 ⟨Nat.le_of_ble_eq_true rfl, Nat.le_of_ble_eq_true rfl⟩) hP hS hA (fun r_16 H locs wr_16 hP hS => ?_)
          refine lv_if_eq (tgt := 59) hx hb dX0_gather_31 (by decide) (fun c_17 => ?_) (fun c_17 => ?_)
          · refine lv_iinc (v := nI (j1 + 1)) (lv' := [(6, .int (nI (j1 + 1))), (5, .int (nI cn)), (0, .ref (a 6)), (1, .int (nI x1)), (2, .int (nI x2)), (3, .int n3), (4, .ref (a 29))]) hx hb dX0_gather_59 hl (k := 0) rfl (nI_1 j1) (by decide) rfl (fun ls hl => ?_)
            refine lv_goto (tgt := 6) hx hb dX0_gather_62 (by decide) ?_
            exact ih6 (j1 + 1) cn y6_a29 H locs ls (by omega) (by omega) (lf_X0_gather_d4_18 a dm d0 d1 d2 d4 x1 x2 n3 hdm hx1 hx2 j1 cn y6_a29 k6 hj6 hk6 hcn c_1 n_5 r_10 c_11 r_16 c_17) (hP.sub [0, 1, 2, 3, 4] rfl) (hD.sub [0, 1, 2, 3, 4] (by decide) rfl) hS (lv_sub hl [0, 1, 2, 3, 4, 5, 6] rfl)
          · refine lv_aload hx hb dX0_gather_34 (lv_at hl 6 rfl) ?_
            refine lv_iload hx hb dX0_gather_36 (lv_at hl 1 rfl) ?_
            refine lv_aload_n hx hb dX0_gather_38 rfl (lv_at hl 2 rfl) ?_
            refine lv_iload_n hx hb dX0_gather_39 rfl (lv_at hl 4 rfl) ?_
            refine lv_iload hx hb dX0_gather_40 (lv_at hl 0 rfl) ?_
            refine lv_iload_n hx hb dX0_gather_42 rfl (lv_at hl 5 rfl) ?_
            refine eRi (va_runV (As := [.int (nI x2), .int (nI j1), .int n3]) (rest := [.int (nI cn), .ref (a 29)]) ⟨hx, hb, hml, hown, hts⟩ (c_X0_at l D cI cB cZ cJ tx a dm d0 d1 x2 j1 n3 (lf_X0_gather_d4_19 a dm d0 d1 d2 d4 x1 x2 n3 hdm hx1 hx2 j1 cn y6_a29 k6 hj6 hk6 hcn c_1 n_5 r_10 c_11 r_16 c_17) (lf_X0_gather_d4_20 a dm d0 d1 d2 d4 x1 x2 n3 hdm hx1 hx2 j1 cn y6_a29 k6 hj6 hk6 hcn c_1 n_5 r_10 c_11 r_16 c_17) H.size) (zV hts k_955 v_X0_at ⟨Nat.le_of_ble_eq_true rfl, Nat.le_of_ble_eq_true rfl⟩) (pV (pxS hK hP hD [0, 1, 2] (by decide) rfl) hK hP 0 rfl rfl) rfl rfl hl.1 rfl (lv_room (Nat.le_of_ble_eq_true rfl)) dX0_gather_43 ⟨Nat.le_of_ble_eq_true rfl, Nat.le_of_ble_eq_true rfl⟩) hP hS hA (fun r_21 H locs wr_21 hP hS => ?_)
            refine lv_aload_n hx hb dX0_gather_46 rfl (lv_at hl 2 rfl) ?_
            refine lv_iload_n hx hb dX0_gather_47 rfl (lv_at hl 3 rfl) ?_
            refine lv_iload hx hb dX0_gather_48 (lv_at hl 0 rfl) ?_
            refine lv_iload_n hx hb dX0_gather_50 rfl (lv_at hl 5 rfl) ?_
            refine eRi (va_runV (As := [.int (nI x1), .int (nI j1), .int n3]) (rest := [.int r_21, .int (nI cn), .ref (a 29)]) ⟨hx, hb, hml, hown, hts⟩ (c_X0_at l D cI cB cZ cJ tx a dm d0 d1 x1 j1 n3 (lf_X0_gather_d4_22 a dm d0 d1 d2 d4 x1 x2 n3 hdm hx1 hx2 j1 cn y6_a29 k6 hj6 hk6 hcn c_1 n_5 r_10 c_11 r_16 c_17 r_21) (lf_X0_gather_d4_23 a dm d0 d1 d2 d4 x1 x2 n3 hdm hx1 hx2 j1 cn y6_a29 k6 hj6 hk6 hcn c_1 n_5 r_10 c_11 r_16 c_17 r_21) H.size) (zV hts k_955 v_X0_at ⟨Nat.le_of_ble_eq_true rfl, Nat.le_of_ble_eq_true rfl⟩) (pV (pxS hK hP hD [0, 1, 2] (by decide) rfl) hK hP 0 rfl rfl) rfl rfl hl.1 rfl (lv_room (Nat.le_of_ble_eq_true rfl)) dX0_gather_51 ⟨Nat.le_of_ble_eq_true rfl, Nat.le_of_ble_eq_true rfl⟩) hP hS hA (fun r_24 H locs wr_24 hP hS => ?_)
            refine lv_isub hx hb dX0_gather_54 ?_
            refine lv_topi (fun x_25 ex_25 => ?_)
            refine st_i hx hb hK hP hD hS 4 rfl (lf_X0_gather_d4_27 a dm d0 d1 d2 d4 x1 x2 n3 hdm hx1 hx2 j1 cn y6_a29 k6 hj6 hk6 hcn c_1 n_5 r_10 c_11 r_16 c_17 r_21 r_24 x_25 ex_25) dX0_gather_55 (fun f_26 H locs hP hD hS => ?_)
            have hP : va_P D vwCl [(a 6, .inr (0, [.ref (a 5), .ref (a 25), .ref (a 26), .ref (a 27), .ref (a 28), .ref (a 29), .int (nI dm)])), (a 25, .inl (cI, 1536, .inl d0)), (a 26, .inl (cI, 1536, .inl d1)), (a 27, .inl (cZ, 1536, .inl d2)), (a 29, .inl (cI, 384, .inl f_26))] H := hP
            have hD : va_D A [(a 6, .inr (0, [.ref (a 5), .ref (a 25), .ref (a 26), .ref (a 27), .ref (a 28), .ref (a 29), .int (nI dm)])), (a 25, .inl (cI, 1536, .inl d0)), (a 26, .inl (cI, 1536, .inl d1)), (a 27, .inl (cZ, 1536, .inl d2)), (a 29, .inl (cI, 384, .inl f_26))] := hD
            refine lv_iinc (v := nI (cn + 1)) (lv' := [(5, .int (nI (cn + 1))), (6, .int (nI j1)), (0, .ref (a 6)), (1, .int (nI x1)), (2, .int (nI x2)), (3, .int n3), (4, .ref (a 29))]) hx hb dX0_gather_56 hl (k := 1) rfl (nI_1 cn) (by decide) rfl (fun ls hl => ?_)
            refine lv_iinc (v := nI (j1 + 1)) (lv' := [(6, .int (nI (j1 + 1))), (5, .int (nI (cn + 1))), (0, .ref (a 6)), (1, .int (nI x1)), (2, .int (nI x2)), (3, .int n3), (4, .ref (a 29))]) hx hb dX0_gather_59 hl (k := 1) rfl (nI_1 j1) (by decide) rfl (fun ls hl => ?_)
            refine lv_goto (tgt := 6) hx hb dX0_gather_62 (by decide) ?_
            exact ih6 (j1 + 1) (cn + 1) f_26 H locs ls (by omega) (by omega) (lf_X0_gather_d4_28 a dm d0 d1 d2 d4 x1 x2 n3 hdm hx1 hx2 j1 cn y6_a29 k6 hj6 hk6 hcn c_1 n_5 r_10 c_11 r_16 c_17 r_21 r_24 x_25 ex_25 f_26) (hP.sub [0, 1, 2, 3, 4] rfl) (hD.sub [0, 1, 2, 3, 4] (by decide) rfl) hS (lv_sub hl [0, 1, 2, 3, 4, 5, 6] rfl)
  exact lp6 (384 + 1) 0 0 d4 H locs ls (by omega) (by omega) (lf_X0_gather_d4_29 a dm d0 d1 d2 d4 x1 x2 n3 hdm hx1 hx2) (hP.sub [0, 1, 2, 3, 4] rfl) (hD.sub [0, 1, 2, 3, 4] (by decide) rfl) hS (lv_sub hl [0, 1, 2, 3, 4, 5, 6] rfl)

theorem lf_X0_marksOf_3 (a : Nat → Nat) (dm : Nat) (d2 : Nat → Int32) (x1 : Nat) (hdm : dm ≤ 4) (hx1 : x1 < dm) (j1 : Nat) (w1 : Int32) (k4 : Nat) (hj4 : j1 ≤ 384) (hk4 : 384 < j1 + (k4 + 1)) (c_1 : 384 ≤ nI j1) : 384 ≤ j1 := by
  exact (nI_leI (a := 384) (b := j1) (by omega) (by omega)).mp c_1
theorem lf_X0_marksOf_5 (a : Nat → Nat) (dm : Nat) (d2 : Nat → Int32) (x1 : Nat) (hdm : dm ≤ 4) (hx1 : x1 < dm) (j1 : Nat) (w1 : Int32) (k4 : Nat) (hj4 : j1 ≤ 384) (hk4 : 384 < j1 + (k4 + 1)) (c_1 : ¬ 384 ≤ nI j1) : j1 < 384 := by
  exact Nat.lt_of_not_le (fun q => c_1 ((nI_leI (a := 384) (b := j1) (by omega) (by omega)).mpr q))
theorem lf_X0_marksOf_6 (a : Nat → Nat) (dm : Nat) (d2 : Nat → Int32) (x1 : Nat) (hdm : dm ≤ 4) (hx1 : x1 < dm) (j1 : Nat) (w1 : Int32) (k4 : Nat) (hj4 : j1 ≤ 384) (hk4 : 384 < j1 + (k4 + 1)) (c_1 : ¬ 384 ≤ nI j1) (n_4 : j1 < 384) : dm ≤ 4 := by
  first | assumption | omega | decide
theorem lf_X0_marksOf_7 (a : Nat → Nat) (dm : Nat) (d2 : Nat → Int32) (x1 : Nat) (hdm : dm ≤ 4) (hx1 : x1 < dm) (j1 : Nat) (w1 : Int32) (k4 : Nat) (hj4 : j1 ≤ 384) (hk4 : 384 < j1 + (k4 + 1)) (c_1 : ¬ 384 ≤ nI j1) (n_4 : j1 < 384) : x1 < dm := by
  first | assumption | omega | decide
theorem lf_X0_marksOf_8 (a : Nat → Nat) (dm : Nat) (d2 : Nat → Int32) (x1 : Nat) (hdm : dm ≤ 4) (hx1 : x1 < dm) (j1 : Nat) (w1 : Int32) (k4 : Nat) (hj4 : j1 ≤ 384) (hk4 : 384 < j1 + (k4 + 1)) (c_1 : ¬ 384 ≤ nI j1) (n_4 : j1 < 384) : j1 < 384 := by
  first | assumption | omega | decide
set_option maxHeartbeats 4000000 in
set_option maxRecDepth 100000 in
theorem c_X0_marksOf (l : Launch) (D : va_G) (cI cB cZ cJ : ClassId) (tx : List (ClassId × FieldType)) (a : Nat → Nat) (dm : Nat) (d2 : Nat → Int32) (x1 : Nat) (hdm : dm ≤ 4) (hx1 : x1 < dm) : RdI l D cI cB cZ cJ tx yX0_marksOf cX0_marksOf 4 (some .int) 3 [.ref (a 6), .int (nI x1)] [(a 6, .inr (0, [.ref (a 5), .ref (a 25), .ref (a 26), .ref (a 27), .ref (a 28), .ref (a 29), .int (nI dm)])), (a 27, .inl (cZ, 1536, .inl d2))] (fun r => True) := by
  refine rdi_of2 (by decide) (Nat.le_of_ble_eq_true rfl) ?_
  intro p e s m below meth c A ls H locs hC hK hP hD hA hS hl
  obtain ⟨hx, hb, hr, hml, hown, hts, hlocks, hin⟩ := hC
  have hown : s.vm.findClass RX0 = some m.cls := hown
  have hl : lv_has ls 4 [(0, .ref (a 6)), (1, .int (nI x1))] := hl
  refine lv_iconst (v := 0) hx hb dX0_marksOf_0 (by decide) ?_
  refine lv_istore_n (lv' := [(2, .int 0), (0, .ref (a 6)), (1, .int (nI x1))]) hx hb dX0_marksOf_1 rfl hl (by decide) rfl (fun ls hl => ?_)
  refine lv_iconst (v := 0) hx hb dX0_marksOf_2 (by decide) ?_
  refine lv_istore_n (lv' := [(3, .int 0), (2, .int 0), (0, .ref (a 6)), (1, .int (nI x1))]) hx hb dX0_marksOf_3 rfl hl (by decide) rfl (fun ls hl => ?_)
  have lp4 : ∀ (k4 : Nat) (j1 : Nat) (w1 : Int32) (H : Heap) (locs : List Loc) (ls : Array Slot), j1 ≤ 384 → 384 < j1 + k4 → va_P D vwCl [(a 6, .inr (0, [.ref (a 5), .ref (a 25), .ref (a 26), .ref (a 27), .ref (a 28), .ref (a 29), .int (nI dm)])), (a 27, .inl (cZ, 1536, .inl d2))] H → va_S A s.heap H locs → lv_has ls 4 [(3, .int (nI j1)), (2, .int w1), (0, .ref (a 6)), (1, .int (nI x1))] → W p l e (rmX 3 0 0) s m ([.ref (a 6), .int (nI x1)] : List Value).toArray below meth c H locs 0 0 (MQ below (va_Qi (fun r (_ : Unit) => (fun r => True) r) (fun _ _ => True) A) ([.ref (a 6), .int (nI x1)] : List Value).toArray s 0 0 A) (F0 m 4 ls []) := by
    intro k4
    induction k4 with
    | zero =>
      intro j1 w1 H locs ls hj4 hk4  hP hS hl
      exact absurd hk4 (by omega)
    | succ k4 ih4 =>
      intro j1 w1 H locs ls hj4 hk4  hP hS hl
      refine lv_iload_n hx hb dX0_marksOf_4 rfl (lv_at hl 0 rfl) ?_
      refine lv_sipush (v := 384) hx hb dX0_marksOf_5 (by decide) ?_
      refine lv_icmp_ge (tgt := 34) hx hb dX0_marksOf_8 (by decide) (fun c_1 => ?_) (fun c_1 => ?_)
      · have n_2 : 384 ≤ j1 := (lf_X0_marksOf_3 a dm d2 x1 hdm hx1 j1 w1 k4 hj4 hk4 c_1)
        refine lv_iload_n hx hb dX0_marksOf_34 rfl (lv_at hl 1 rfl) ?_
        exact W.iret (v := w1) hx hb hr (fun tt9 ht hW => ⟨⟨(w1 : Int32), (), rfl, trivial, trivial⟩, hS.F ht⟩) hS.2.2 dX0_marksOf_35 hlocks
      · have n_4 : j1 < 384 := (lf_X0_marksOf_5 a dm d2 x1 hdm hx1 j1 w1 k4 hj4 hk4 c_1)
        refine lv_iload_n hx hb dX0_marksOf_11 rfl (lv_at hl 1 rfl) ?_
        refine lv_aload_n hx hb dX0_marksOf_12 rfl (lv_at hl 2 rfl) ?_
        refine lv_iload_n hx hb dX0_marksOf_13 rfl (lv_at hl 3 rfl) ?_
        refine lv_iload_n hx hb dX0_marksOf_14 rfl (lv_at hl 0 rfl) ?_
        refine eRi (va_runV (As := [.int (nI x1), .int (nI j1)]) (rest := [.int w1]) ⟨hx, hb, hml, hown, hts⟩ (c_X0_hasMark_g l D cI cB cZ cJ tx a dm d2 x1 j1 (lf_X0_marksOf_6 a dm d2 x1 hdm hx1 j1 w1 k4 hj4 hk4 c_1 n_4) (lf_X0_marksOf_7 a dm d2 x1 hdm hx1 j1 w1 k4 hj4 hk4 c_1 n_4) (lf_X0_marksOf_8 a dm d2 x1 hdm hx1 j1 w1 k4 hj4 hk4 c_1 n_4) H.size) (zV hts k_924 v_X0_hasMark ⟨Nat.le_of_ble_eq_true rfl, Nat.le_of_ble_eq_true rfl⟩) (pV (pxS hK hP hD [0, 1] (by decide) rfl) hK hP 0 rfl rfl) rfl rfl hl.1 rfl (lv_room (Nat.le_of_ble_eq_true rfl)) dX0_marksOf_15 ⟨Nat.le_of_ble_eq_true rfl, Nat.le_of_ble_eq_true rfl⟩) hP hS hA (fun r_9 H locs wr_9 hP hS => ?_)
        refine lv_if_eq (tgt := 25) hx hb dX0_marksOf_18 (by decide) (fun c_10 => ?_) (fun c_10 => ?_)
        · refine lv_iconst (v := 0) hx hb dX0_marksOf_25 (by decide) ?_
          refine lv_iadd hx hb dX0_marksOf_26 ?_
          refine lv_topi (fun x_11 ex_11 => ?_)
          refine lv_istore_n (lv' := [(2, .int x_11), (3, .int (nI j1)), (0, .ref (a 6)), (1, .int (nI x1))]) hx hb dX0_marksOf_27 rfl hl (by decide) rfl (fun ls hl => ?_)
          refine lv_iinc (v := nI (j1 + 1)) (lv' := [(3, .int (nI (j1 + 1))), (2, .int x_11), (0, .ref (a 6)), (1, .int (nI x1))]) hx hb dX0_marksOf_28 hl (k := 1) rfl (nI_1 j1) (by decide) rfl (fun ls hl => ?_)
          refine lv_goto (tgt := 4) hx hb dX0_marksOf_31 (by decide) ?_
          exact ih4 (j1 + 1) x_11 H locs ls (by omega) (by omega)  (hP.sub [0, 1] rfl)  hS (lv_sub hl [0, 1, 2, 3] rfl)
        · refine lv_iconst (v := 1) hx hb dX0_marksOf_21 (by decide) ?_
          refine lv_goto (tgt := 26) hx hb dX0_marksOf_22 (by decide) ?_
          refine lv_iadd hx hb dX0_marksOf_26 ?_
          refine lv_topi (fun x_12 ex_12 => ?_)
          refine lv_istore_n (lv' := [(2, .int x_12), (3, .int (nI j1)), (0, .ref (a 6)), (1, .int (nI x1))]) hx hb dX0_marksOf_27 rfl hl (by decide) rfl (fun ls hl => ?_)
          refine lv_iinc (v := nI (j1 + 1)) (lv' := [(3, .int (nI (j1 + 1))), (2, .int x_12), (0, .ref (a 6)), (1, .int (nI x1))]) hx hb dX0_marksOf_28 hl (k := 1) rfl (nI_1 j1) (by decide) rfl (fun ls hl => ?_)
          refine lv_goto (tgt := 4) hx hb dX0_marksOf_31 (by decide) ?_
          exact ih4 (j1 + 1) x_12 H locs ls (by omega) (by omega)  (hP.sub [0, 1] rfl)  hS (lv_sub hl [0, 1, 2, 3] rfl)
  exact lp4 (384 + 1) 0 0 H locs ls (by omega) (by omega)  (hP.sub [0, 1] rfl)  hS (lv_sub hl [0, 1, 2, 3] rfl)

theorem lf_X0_common_1 (a : Nat → Nat) (dm : Nat) (d0 : Nat → Int32) (d1 : Nat → Int32) (d2 : Nat → Int32) (d3 : Nat → Int32) (x1 : Nat) (x2 : Nat) (hdm : dm ≤ 4) (hx1 : x1 < dm) (hx2 : x2 < dm) : dm ≤ 4 := by
  first | assumption | omega | decide
theorem lf_X0_common_2 (a : Nat → Nat) (dm : Nat) (d0 : Nat → Int32) (d1 : Nat → Int32) (d2 : Nat → Int32) (d3 : Nat → Int32) (x1 : Nat) (x2 : Nat) (hdm : dm ≤ 4) (hx1 : x1 < dm) (hx2 : x2 < dm) : x1 < dm := by
  first | assumption | omega | decide
theorem lf_X0_common_3 (a : Nat → Nat) (dm : Nat) (d0 : Nat → Int32) (d1 : Nat → Int32) (d2 : Nat → Int32) (d3 : Nat → Int32) (x1 : Nat) (x2 : Nat) (hdm : dm ≤ 4) (hx1 : x1 < dm) (hx2 : x2 < dm) : x2 < dm := by
  first | assumption | omega | decide
theorem lf_X0_common_7 (a : Nat → Nat) (dm : Nat) (d0 : Nat → Int32) (d1 : Nat → Int32) (d2 : Nat → Int32) (d3 : Nat → Int32) (x1 : Nat) (x2 : Nat) (hdm : dm ≤ 4) (hx1 : x1 < dm) (hx2 : x2 < dm) (d3_5 : Nat → Int32) (mm_6 : Nat) (hmm_6 : mm_6 ≤ 384) : ∃ m : Nat, m ≤ 384 ∧ (nI mm_6 : Int32) = nI m := by
  exact ⟨_, by omega, rfl⟩
set_option maxHeartbeats 4000000 in
set_option maxRecDepth 100000 in
theorem c_X0_common (l : Launch) (D : va_G) (cI cB cZ cJ : ClassId) (tx : List (ClassId × FieldType)) (a : Nat → Nat) (dm : Nat) (d0 : Nat → Int32) (d1 : Nat → Int32) (d2 : Nat → Int32) (d3 : Nat → Int32) (x1 : Nat) (x2 : Nat) (hdm : dm ≤ 4) (hx1 : x1 < dm) (hx2 : x2 < dm) : WrI l D cI cB cZ cJ tx yX0_common cX0_common 3 (some .int) 4 0 0 [.ref (a 6), .int (nI x1), .int (nI x2)] [(a 6, .inr (0, [.ref (a 5), .ref (a 25), .ref (a 26), .ref (a 27), .ref (a 28), .ref (a 29), .int (nI dm)])), (a 25, .inl (cI, 1536, .inl d0)), (a 26, .inl (cI, 1536, .inl d1)), (a 27, .inl (cZ, 1536, .inl d2)), (a 28, .inl (cI, 384, .inl d3))] (fun (r : Int32) (v : (Nat → Int32)) => ∃ m : Nat, m ≤ 384 ∧ r = nI m) (fun v => [(a 6, .inr (0, [.ref (a 5), .ref (a 25), .ref (a 26), .ref (a 27), .ref (a 28), .ref (a 29), .int (nI dm)])), (a 25, .inl (cI, 1536, .inl d0)), (a 26, .inl (cI, 1536, .inl d1)), (a 27, .inl (cZ, 1536, .inl d2)), (a 28, .inl (cI, 384, .inl v))]) := by
  refine wri_of2 (by decide) (Nat.le_of_ble_eq_true rfl) ?_
  intro p e s m below meth c A ls H locs hC hK hP hD hA hS hl
  obtain ⟨hx, hb, hr, hml, hown, hts, hlocks, hin⟩ := hC
  have hown : s.vm.findClass RX0 = some m.cls := hown
  have hl : lv_has ls 3 [(0, .ref (a 6)), (1, .int (nI x1)), (2, .int (nI x2))] := hl
  refine lv_aload_n hx hb dX0_common_0 rfl (lv_at hl 0 rfl) ?_
  refine lv_iload_n hx hb dX0_common_1 rfl (lv_at hl 1 rfl) ?_
  refine lv_iload_n hx hb dX0_common_2 rfl (lv_at hl 2 rfl) ?_
  refine lv_iconst (v := 0) hx hb dX0_common_3 (by decide) ?_
  refine lv_aload_n hx hb dX0_common_4 rfl (lv_at hl 0 rfl) ?_
  refine va_get (D := D) (ci := 0) (v := .ref (a 28)) (C := RX0) (T := TX0) (N := 7) hx hb hts inT_X0 hown hK.1 hP 0 rfl rfl 4 (by decide) (hts _ k_298) (fun _ h9 => h9) rfl dX0_common_5 ?_
  refine eWi (wr := []) (va_runV (As := [.int (nI x1), .int (nI x2), .int 0, .ref (a 28)]) (rest := []) ⟨hx, hb, hml, hown, hts⟩ (c_X0_gather_d3 l D cI cB cZ cJ tx a dm d0 d1 d2 d3 x1 x2 0 (lf_X0_common_1 a dm d0 d1 d2 d3 x1 x2 hdm hx1 hx2) (lf_X0_common_2 a dm d0 d1 d2 d3 x1 x2 hdm hx1 hx2) (lf_X0_common_3 a dm d0 d1 d2 d3 x1 x2 hdm hx1 hx2) H.size) (zV hts k_951 v_X0_gather ⟨Nat.le_of_ble_eq_true rfl, Nat.le_of_ble_eq_true rfl⟩) (pV (pxS hK hP hD [0, 1, 2, 3, 4] (by decide) rfl) hK hP 0 rfl rfl) rfl rfl hl.1 rfl (lv_room (Nat.le_of_ble_eq_true rfl)) dX0_common_8 ⟨Nat.le_of_ble_eq_true rfl, Nat.le_of_ble_eq_true rfl⟩) hP hD hS hA [0, 1, 2, 3, 4] [] rfl rfl (by decide) (by decide) (fun r_4 u_5 H locs wr_4 hP hD hS => ?_)
  obtain ⟨d3_5, rfl⟩ : ∃ z, z = u_5 := ⟨_, rfl⟩
  have hP : va_P D vwCl [(a 6, .inr (0, [.ref (a 5), .ref (a 25), .ref (a 26), .ref (a 27), .ref (a 28), .ref (a 29), .int (nI dm)])), (a 25, .inl (cI, 1536, .inl d0)), (a 26, .inl (cI, 1536, .inl d1)), (a 27, .inl (cZ, 1536, .inl d2)), (a 28, .inl (cI, 384, .inl d3_5))] H := hP
  have hD : va_D A [(a 6, .inr (0, [.ref (a 5), .ref (a 25), .ref (a 26), .ref (a 27), .ref (a 28), .ref (a 29), .int (nI dm)])), (a 25, .inl (cI, 1536, .inl d0)), (a 26, .inl (cI, 1536, .inl d1)), (a 27, .inl (cZ, 1536, .inl d2)), (a 28, .inl (cI, 384, .inl d3_5))] := hD
  rcases wr_4 with ⟨mm_6, hmm_6, rfl⟩
  · exact W.iret (v := nI mm_6) hx hb hr (fun tt9 ht hW => ⟨⟨(nI mm_6 : Int32), ((d3_5 : Nat → Int32)), rfl, (lf_X0_common_7 a dm d0 d1 d2 d3 x1 x2 hdm hx1 hx2 d3_5 mm_6 hmm_6), ⟨by rw [ht]; exact hP, hD⟩⟩, hS.F ht⟩) hS.2.2 dX0_common_11 hlocks

theorem fa_orN (a b : Nat) : nI a ||| nI b = nI (a ||| b) := by
  apply Int32.toBitVec_inj.mp
  rw [Int32.toBitVec_or]
  show BitVec.ofNat 32 a ||| BitVec.ofNat 32 b = BitVec.ofNat 32 (a ||| b)
  apply BitVec.eq_of_getLsbD_eq
  intro i hi
  simp [BitVec.getLsbD_or, BitVec.getLsbD_ofNat, hi, Nat.testBit_or]
theorem nn_or {o : Nat} {y : Int32} (k : Nat) (ho : o ≤ 99999) (hk : k < 16) (hy : y = nI k) : 0 ≤ (nI o <<< ((4 : Int32) &&& 31)) ||| y := by
  subst hy
  rw [pk_shlN ((4 : Int32) &&& 31) 4 (by decide) (by omega), fa_orN]
  exact nI_pos' (Nat.lt_trans (Nat.or_lt_two_pow (n := 21) (by omega) (by omega)) (by decide))
theorem st_upd {f g : Nat → Int32} {k : Nat} {x : Int32} (h : ∀ j, j < 200 → 0 ≤ f j) (e : g = upd f k x) (hx : 0 ≤ x) : ∀ j, j < 200 → 0 ≤ g j := by
  intro j hj
  rw [e]
  show 0 ≤ (if j = k then x else f j)
  split
  · exact hx
  · exact h j hj
theorem lf_X8_put_3 (a : Nat → Nat) (tu : Nat) (tb : Nat → Int32) (n1 : Int32) (htu : tu ≤ 220) (c_1 : 220 ≤ nI tu) : 220 ≤ tu := by
  exact (nI_leI (a := 220) (b := tu) (by omega) (by omega)).mp c_1
theorem lf_X8_put_4 (a : Nat → Nat) (tu : Nat) (tb : Nat → Int32) (n1 : Int32) (htu : tu ≤ 220) (c_1 : 220 ≤ nI tu) (n_2 : 220 ≤ tu) : ((tu : Nat) ≤ 220) := by
  first | omega | assumption | trivial
theorem lf_X8_put_6 (a : Nat → Nat) (tu : Nat) (tb : Nat → Int32) (n1 : Int32) (htu : tu ≤ 220) (c_1 : ¬ 220 ≤ nI tu) : tu < 220 := by
  exact Nat.lt_of_not_le (fun q => c_1 ((nI_leI (a := 220) (b := tu) (by omega) (by omega)).mpr q))
theorem lf_X8_put_10 (a : Nat → Nat) (tu : Nat) (tb : Nat → Int32) (n1 : Int32) (htu : tu ≤ 220) (c_1 : ¬ 220 ≤ nI tu) (n_5 : tu < 220) (x_7 : Int32) (x_8 : Int32) : vp_in (nI tu) 220 := by
  first | exact vp_in_nI (by omega) (by decide) | (unfold vp_in; decide)
theorem lf_X8_put_13 (a : Nat → Nat) (tu : Nat) (tb : Nat → Int32) (n1 : Int32) (htu : tu ≤ 220) (c_1 : ¬ 220 ≤ nI tu) (n_5 : tu < 220) (x_7 : Int32) (x_8 : Int32) (f_9 : Nat → Int32) (c_11 : 220 ≤ nI (tu + 1)) : 220 ≤ (tu + 1) := by
  exact (nI_leI (a := 220) (b := (tu + 1)) (by omega) (by omega)).mp c_11
theorem lf_X8_put_14 (a : Nat → Nat) (tu : Nat) (tb : Nat → Int32) (n1 : Int32) (htu : tu ≤ 220) (c_1 : ¬ 220 ≤ nI tu) (n_5 : tu < 220) (x_7 : Int32) (x_8 : Int32) (f_9 : Nat → Int32) (c_11 : 220 ≤ nI (tu + 1)) (n_12 : 220 ≤ (tu + 1)) : (((tu + 1) : Nat) ≤ 220) := by
  first | omega | assumption | trivial
theorem lf_X8_put_16 (a : Nat → Nat) (tu : Nat) (tb : Nat → Int32) (n1 : Int32) (htu : tu ≤ 220) (c_1 : ¬ 220 ≤ nI tu) (n_5 : tu < 220) (x_7 : Int32) (x_8 : Int32) (f_9 : Nat → Int32) (c_11 : ¬ 220 ≤ nI (tu + 1)) : (tu + 1) < 220 := by
  exact Nat.lt_of_not_le (fun q => c_11 ((nI_leI (a := 220) (b := (tu + 1)) (by omega) (by omega)).mpr q))
theorem lf_X8_put_20 (a : Nat → Nat) (tu : Nat) (tb : Nat → Int32) (n1 : Int32) (htu : tu ≤ 220) (c_1 : ¬ 220 ≤ nI tu) (n_5 : tu < 220) (x_7 : Int32) (x_8 : Int32) (f_9 : Nat → Int32) (c_11 : ¬ 220 ≤ nI (tu + 1)) (n_15 : (tu + 1) < 220) (x_17 : Int32) (x_18 : Int32) : vp_in (nI (tu + 1)) 220 := by
  first | exact vp_in_nI (by omega) (by decide) | (unfold vp_in; decide)
theorem lf_X8_put_23 (a : Nat → Nat) (tu : Nat) (tb : Nat → Int32) (n1 : Int32) (htu : tu ≤ 220) (c_1 : ¬ 220 ≤ nI tu) (n_5 : tu < 220) (x_7 : Int32) (x_8 : Int32) (f_9 : Nat → Int32) (c_11 : ¬ 220 ≤ nI (tu + 1)) (n_15 : (tu + 1) < 220) (x_17 : Int32) (x_18 : Int32) (f_19 : Nat → Int32) (c_21 : 220 ≤ nI ((tu + 1) + 1)) : 220 ≤ ((tu + 1) + 1) := by
  exact (nI_leI (a := 220) (b := ((tu + 1) + 1)) (by omega) (by omega)).mp c_21
theorem lf_X8_put_24 (a : Nat → Nat) (tu : Nat) (tb : Nat → Int32) (n1 : Int32) (htu : tu ≤ 220) (c_1 : ¬ 220 ≤ nI tu) (n_5 : tu < 220) (x_7 : Int32) (x_8 : Int32) (f_9 : Nat → Int32) (c_11 : ¬ 220 ≤ nI (tu + 1)) (n_15 : (tu + 1) < 220) (x_17 : Int32) (x_18 : Int32) (f_19 : Nat → Int32) (c_21 : 220 ≤ nI ((tu + 1) + 1)) (n_22 : 220 ≤ ((tu + 1) + 1)) : ((((tu + 1) + 1) : Nat) ≤ 220) := by
  first | omega | assumption | trivial
theorem lf_X8_put_26 (a : Nat → Nat) (tu : Nat) (tb : Nat → Int32) (n1 : Int32) (htu : tu ≤ 220) (c_1 : ¬ 220 ≤ nI tu) (n_5 : tu < 220) (x_7 : Int32) (x_8 : Int32) (f_9 : Nat → Int32) (c_11 : ¬ 220 ≤ nI (tu + 1)) (n_15 : (tu + 1) < 220) (x_17 : Int32) (x_18 : Int32) (f_19 : Nat → Int32) (c_21 : ¬ 220 ≤ nI ((tu + 1) + 1)) : ((tu + 1) + 1) < 220 := by
  exact Nat.lt_of_not_le (fun q => c_21 ((nI_leI (a := 220) (b := ((tu + 1) + 1)) (by omega) (by omega)).mpr q))
theorem lf_X8_put_30 (a : Nat → Nat) (tu : Nat) (tb : Nat → Int32) (n1 : Int32) (htu : tu ≤ 220) (c_1 : ¬ 220 ≤ nI tu) (n_5 : tu < 220) (x_7 : Int32) (x_8 : Int32) (f_9 : Nat → Int32) (c_11 : ¬ 220 ≤ nI (tu + 1)) (n_15 : (tu + 1) < 220) (x_17 : Int32) (x_18 : Int32) (f_19 : Nat → Int32) (c_21 : ¬ 220 ≤ nI ((tu + 1) + 1)) (n_25 : ((tu + 1) + 1) < 220) (x_27 : Int32) (x_28 : Int32) : vp_in (nI ((tu + 1) + 1)) 220 := by
  first | exact vp_in_nI (by omega) (by decide) | (unfold vp_in; decide)
theorem lf_X8_put_33 (a : Nat → Nat) (tu : Nat) (tb : Nat → Int32) (n1 : Int32) (htu : tu ≤ 220) (c_1 : ¬ 220 ≤ nI tu) (n_5 : tu < 220) (x_7 : Int32) (x_8 : Int32) (f_9 : Nat → Int32) (c_11 : ¬ 220 ≤ nI (tu + 1)) (n_15 : (tu + 1) < 220) (x_17 : Int32) (x_18 : Int32) (f_19 : Nat → Int32) (c_21 : ¬ 220 ≤ nI ((tu + 1) + 1)) (n_25 : ((tu + 1) + 1) < 220) (x_27 : Int32) (x_28 : Int32) (f_29 : Nat → Int32) (c_31 : 220 ≤ nI (((tu + 1) + 1) + 1)) : 220 ≤ (((tu + 1) + 1) + 1) := by
  exact (nI_leI (a := 220) (b := (((tu + 1) + 1) + 1)) (by omega) (by omega)).mp c_31
theorem lf_X8_put_34 (a : Nat → Nat) (tu : Nat) (tb : Nat → Int32) (n1 : Int32) (htu : tu ≤ 220) (c_1 : ¬ 220 ≤ nI tu) (n_5 : tu < 220) (x_7 : Int32) (x_8 : Int32) (f_9 : Nat → Int32) (c_11 : ¬ 220 ≤ nI (tu + 1)) (n_15 : (tu + 1) < 220) (x_17 : Int32) (x_18 : Int32) (f_19 : Nat → Int32) (c_21 : ¬ 220 ≤ nI ((tu + 1) + 1)) (n_25 : ((tu + 1) + 1) < 220) (x_27 : Int32) (x_28 : Int32) (f_29 : Nat → Int32) (c_31 : 220 ≤ nI (((tu + 1) + 1) + 1)) (n_32 : 220 ≤ (((tu + 1) + 1) + 1)) : (((((tu + 1) + 1) + 1) : Nat) ≤ 220) := by
  first | omega | assumption | trivial
theorem lf_X8_put_36 (a : Nat → Nat) (tu : Nat) (tb : Nat → Int32) (n1 : Int32) (htu : tu ≤ 220) (c_1 : ¬ 220 ≤ nI tu) (n_5 : tu < 220) (x_7 : Int32) (x_8 : Int32) (f_9 : Nat → Int32) (c_11 : ¬ 220 ≤ nI (tu + 1)) (n_15 : (tu + 1) < 220) (x_17 : Int32) (x_18 : Int32) (f_19 : Nat → Int32) (c_21 : ¬ 220 ≤ nI ((tu + 1) + 1)) (n_25 : ((tu + 1) + 1) < 220) (x_27 : Int32) (x_28 : Int32) (f_29 : Nat → Int32) (c_31 : ¬ 220 ≤ nI (((tu + 1) + 1) + 1)) : (((tu + 1) + 1) + 1) < 220 := by
  exact Nat.lt_of_not_le (fun q => c_31 ((nI_leI (a := 220) (b := (((tu + 1) + 1) + 1)) (by omega) (by omega)).mpr q))
theorem lf_X8_put_40 (a : Nat → Nat) (tu : Nat) (tb : Nat → Int32) (n1 : Int32) (htu : tu ≤ 220) (c_1 : ¬ 220 ≤ nI tu) (n_5 : tu < 220) (x_7 : Int32) (x_8 : Int32) (f_9 : Nat → Int32) (c_11 : ¬ 220 ≤ nI (tu + 1)) (n_15 : (tu + 1) < 220) (x_17 : Int32) (x_18 : Int32) (f_19 : Nat → Int32) (c_21 : ¬ 220 ≤ nI ((tu + 1) + 1)) (n_25 : ((tu + 1) + 1) < 220) (x_27 : Int32) (x_28 : Int32) (f_29 : Nat → Int32) (c_31 : ¬ 220 ≤ nI (((tu + 1) + 1) + 1)) (n_35 : (((tu + 1) + 1) + 1) < 220) (x_37 : Int32) (x_38 : Int32) : vp_in (nI (((tu + 1) + 1) + 1)) 220 := by
  first | exact vp_in_nI (by omega) (by decide) | (unfold vp_in; decide)
theorem lf_X8_put_41 (a : Nat → Nat) (tu : Nat) (tb : Nat → Int32) (n1 : Int32) (htu : tu ≤ 220) (c_1 : ¬ 220 ≤ nI tu) (n_5 : tu < 220) (x_7 : Int32) (x_8 : Int32) (f_9 : Nat → Int32) (c_11 : ¬ 220 ≤ nI (tu + 1)) (n_15 : (tu + 1) < 220) (x_17 : Int32) (x_18 : Int32) (f_19 : Nat → Int32) (c_21 : ¬ 220 ≤ nI ((tu + 1) + 1)) (n_25 : ((tu + 1) + 1) < 220) (x_27 : Int32) (x_28 : Int32) (f_29 : Nat → Int32) (c_31 : ¬ 220 ≤ nI (((tu + 1) + 1) + 1)) (n_35 : (((tu + 1) + 1) + 1) < 220) (x_37 : Int32) (x_38 : Int32) (f_39 : Nat → Int32) : ((((((tu + 1) + 1) + 1) + 1) : Nat) ≤ 220) := by
  first | omega | assumption | trivial
set_option maxHeartbeats 4000000 in
set_option maxRecDepth 100000 in
theorem c_X8_put (l : Launch) (D : va_G) (cI cB cZ cJ : ClassId) (tx : List (ClassId × FieldType)) (a : Nat → Nat) (tu : Nat) (tb : Nat → Int32) (n1 : Int32) (htu : tu ≤ 220) : WrV l D cI cB cZ cJ tx yX8_put cX8_put 3 none 0 0 0 [.ref (a 1), .int n1] [(a 1, .inr (8, [.ref (a 17), .int (nI tu)])), (a 17, .inl (cB, 220, .inl tb))] (fun (v : (Nat) × (Nat → Int32)) => (v.1 ≤ 220)) (fun v => [(a 1, .inr (8, [.ref (a 17), .int (nI (v.1))])), (a 17, .inl (cB, 220, .inl v.2))]) := by
  refine wrv_of2 (by decide) (Nat.le_of_ble_eq_true rfl) ?_
  intro p e s m below meth c A ls H locs hC hK hP hD hA hS hl
  obtain ⟨hx, hb, hr, hml, hown, hts, hlocks, hin⟩ := hC
  have hown : s.vm.findClass RX8 = some m.cls := hown
  have hl : lv_has ls 3 [(0, .ref (a 1)), (1, .int n1)] := hl
  refine lv_bipush (v := 24) hx hb dX8_put_0 (by decide) ?_
  refine lv_istore_n (lv' := [(2, .int 24), (0, .ref (a 1)), (1, .int n1)]) hx hb dX8_put_2 rfl hl (by decide) rfl (fun ls hl => ?_)
  refine lv_iload_n hx hb dX8_put_3 rfl (lv_at hl 0 rfl) ?_
  refine lv_if_lt (tgt := 48) hx hb dX8_put_4 (by decide) (fun c => absurd c (by decide)) (fun _ => ?_)
  refine lv_aload_n hx hb dX8_put_7 rfl (lv_at hl 1 rfl) ?_
  refine va_get (D := D) (ci := 8) (v := .int (nI tu)) (C := RX8) (T := TX8) (N := 2) hx hb hts inT_X8 hown hK.1 hP 0 rfl rfl 1 (by decide) (hts _ k_151) (fun _ h9 => h9) rfl dX8_put_8 ?_
  refine lv_aload_n hx hb dX8_put_11 rfl (lv_at hl 1 rfl) ?_
  refine va_get (D := D) (ci := 8) (v := .ref (a 17)) (C := RX8) (T := TX8) (N := 2) hx hb hts inT_X8 hown hK.1 hP 0 rfl rfl 0 (by decide) (hts _ k_150) (fun _ h9 => h9) rfl dX8_put_12 ?_
  refine ln_x (v := 220) hx hb hK hP 1 1 rfl rfl (show Int32.ofNat 220 = 220 from by decide) dX8_put_15 ?_
  refine lv_icmp_ge (tgt := 48) hx hb dX8_put_16 (by decide) (fun c_1 => ?_) (fun c_1 => ?_)
  · have n_2 : 220 ≤ tu := (lf_X8_put_3 a tu tb n1 htu c_1)
    exact W.vret hx hb hr (fun tt9 ht hW => ⟨⟨((tu : Nat), (tb : Nat → Int32)), rfl, (lf_X8_put_4 a tu tb n1 htu c_1 n_2), ⟨by rw [ht]; exact hP, hD⟩⟩, hS.F ht⟩) hS.2.2 dX8_put_48 hlocks
  · have n_5 : tu < 220 := (lf_X8_put_6 a tu tb n1 htu c_1)
    refine lv_aload_n hx hb dX8_put_19 rfl (lv_at hl 1 rfl) ?_
    refine va_get (D := D) (ci := 8) (v := .ref (a 17)) (C := RX8) (T := TX8) (N := 2) hx hb hts inT_X8 hown hK.1 hP 0 rfl rfl 0 (by decide) (hts _ k_150) (fun _ h9 => h9) rfl dX8_put_20 ?_
    refine lv_aload_n hx hb dX8_put_23 rfl (lv_at hl 1 rfl) ?_
    refine va_get (D := D) (ci := 8) (v := .int (nI tu)) (C := RX8) (T := TX8) (N := 2) hx hb hts inT_X8 hown hK.1 hP 0 rfl rfl 1 (by decide) (hts _ k_151) (fun _ h9 => h9) rfl dX8_put_24 ?_
    refine lv_iload_n hx hb dX8_put_27 rfl (lv_at hl 2 rfl) ?_
    refine lv_iload_n hx hb dX8_put_28 rfl (lv_at hl 0 rfl) ?_
    refine lv_iushr hx hb dX8_put_29 rfl ?_
    refine lv_topi (fun x_7 _ => ?_)
    refine lv_i2b hx hb dX8_put_30 rfl ?_
    refine lv_topi (fun x_8 _ => ?_)
    refine st_b hx hb hK hP hD hS 1 rfl (lf_X8_put_10 a tu tb n1 htu c_1 n_5 x_7 x_8) dX8_put_31 (fun f_9 H locs hP hD hS => ?_)
    have hP : va_P D vwCl [(a 1, .inr (8, [.ref (a 17), .int (nI tu)])), (a 17, .inl (cB, 220, .inl f_9))] H := hP
    have hD : va_D A [(a 1, .inr (8, [.ref (a 17), .int (nI tu)])), (a 17, .inl (cB, 220, .inl f_9))] := hD
    refine lv_aload_n hx hb dX8_put_32 rfl (lv_at hl 1 rfl) ?_
    refine lv_dup hx hb dX8_put_33 rfl ?_
    refine va_get (D := D) (ci := 8) (v := .int (nI tu)) (C := RX8) (T := TX8) (N := 2) hx hb hts inT_X8 hown hK.1 hP 0 rfl rfl 1 (by decide) (hts _ k_151) (fun _ h9 => h9) rfl dX8_put_34 ?_
    refine lv_iconst (v := 1) hx hb dX8_put_37 (by decide) ?_
    refine lv_iadd hx hb dX8_put_38 ?_
    refine lv_topv (y := nI (tu + 1)) (nI_add tu 1) ?_
    refine va_put (D := D) (ci := 8) (v := .int (nI (tu + 1))) (ty := .int) (C := RX8) (T := TX8) (N := 2) hx hb hts inT_X8 tyX8 tyX8_ok nmX8 hown hK.1 hP hD hS 0 rfl rfl 1 (by decide) (hts _ k_151) (fun _ h9 => h9) rfl (by decide +kernel) rfl rfl (Nat.le_of_ble_eq_true rfl) dX8_put_39 (fun H locs hP hD hS => ?_)
    have hP : va_P D vwCl [(a 1, .inr (8, [.ref (a 17), .int (nI (tu + 1))])), (a 17, .inl (cB, 220, .inl f_9))] H := hP
    have hD : va_D A [(a 1, .inr (8, [.ref (a 17), .int (nI (tu + 1))])), (a 17, .inl (cB, 220, .inl f_9))] := hD
    refine lv_iinc (v := 16) (lv' := [(2, .int 16), (0, .ref (a 1)), (1, .int n1)]) hx hb dX8_put_42 hl (k := 0) rfl (by decide) (by decide) rfl (fun ls hl => ?_)
    refine lv_goto (tgt := 3) hx hb dX8_put_45 (by decide) ?_
    refine lv_iload_n hx hb dX8_put_3 rfl (lv_at hl 0 rfl) ?_
    refine lv_if_lt (tgt := 48) hx hb dX8_put_4 (by decide) (fun c => absurd c (by decide)) (fun _ => ?_)
    refine lv_aload_n hx hb dX8_put_7 rfl (lv_at hl 1 rfl) ?_
    refine va_get (D := D) (ci := 8) (v := .int (nI (tu + 1))) (C := RX8) (T := TX8) (N := 2) hx hb hts inT_X8 hown hK.1 hP 0 rfl rfl 1 (by decide) (hts _ k_151) (fun _ h9 => h9) rfl dX8_put_8 ?_
    refine lv_aload_n hx hb dX8_put_11 rfl (lv_at hl 1 rfl) ?_
    refine va_get (D := D) (ci := 8) (v := .ref (a 17)) (C := RX8) (T := TX8) (N := 2) hx hb hts inT_X8 hown hK.1 hP 0 rfl rfl 0 (by decide) (hts _ k_150) (fun _ h9 => h9) rfl dX8_put_12 ?_
    refine ln_x (v := 220) hx hb hK hP 1 1 rfl rfl (show Int32.ofNat 220 = 220 from by decide) dX8_put_15 ?_
    refine lv_icmp_ge (tgt := 48) hx hb dX8_put_16 (by decide) (fun c_11 => ?_) (fun c_11 => ?_)
    · have n_12 : 220 ≤ (tu + 1) := (lf_X8_put_13 a tu tb n1 htu c_1 n_5 x_7 x_8 f_9 c_11)
      exact W.vret hx hb hr (fun tt9 ht hW => ⟨⟨(((tu + 1) : Nat), (f_9 : Nat → Int32)), rfl, (lf_X8_put_14 a tu tb n1 htu c_1 n_5 x_7 x_8 f_9 c_11 n_12), ⟨by rw [ht]; exact hP, hD⟩⟩, hS.F ht⟩) hS.2.2 dX8_put_48 hlocks
    · have n_15 : (tu + 1) < 220 := (lf_X8_put_16 a tu tb n1 htu c_1 n_5 x_7 x_8 f_9 c_11)
      refine lv_aload_n hx hb dX8_put_19 rfl (lv_at hl 1 rfl) ?_
      refine va_get (D := D) (ci := 8) (v := .ref (a 17)) (C := RX8) (T := TX8) (N := 2) hx hb hts inT_X8 hown hK.1 hP 0 rfl rfl 0 (by decide) (hts _ k_150) (fun _ h9 => h9) rfl dX8_put_20 ?_
      refine lv_aload_n hx hb dX8_put_23 rfl (lv_at hl 1 rfl) ?_
      refine va_get (D := D) (ci := 8) (v := .int (nI (tu + 1))) (C := RX8) (T := TX8) (N := 2) hx hb hts inT_X8 hown hK.1 hP 0 rfl rfl 1 (by decide) (hts _ k_151) (fun _ h9 => h9) rfl dX8_put_24 ?_
      refine lv_iload_n hx hb dX8_put_27 rfl (lv_at hl 2 rfl) ?_
      refine lv_iload_n hx hb dX8_put_28 rfl (lv_at hl 0 rfl) ?_
      refine lv_iushr hx hb dX8_put_29 rfl ?_
      refine lv_topi (fun x_17 _ => ?_)
      refine lv_i2b hx hb dX8_put_30 rfl ?_
      refine lv_topi (fun x_18 _ => ?_)
      refine st_b hx hb hK hP hD hS 1 rfl (lf_X8_put_20 a tu tb n1 htu c_1 n_5 x_7 x_8 f_9 c_11 n_15 x_17 x_18) dX8_put_31 (fun f_19 H locs hP hD hS => ?_)
      have hP : va_P D vwCl [(a 1, .inr (8, [.ref (a 17), .int (nI (tu + 1))])), (a 17, .inl (cB, 220, .inl f_19))] H := hP
      have hD : va_D A [(a 1, .inr (8, [.ref (a 17), .int (nI (tu + 1))])), (a 17, .inl (cB, 220, .inl f_19))] := hD
      refine lv_aload_n hx hb dX8_put_32 rfl (lv_at hl 1 rfl) ?_
      refine lv_dup hx hb dX8_put_33 rfl ?_
      refine va_get (D := D) (ci := 8) (v := .int (nI (tu + 1))) (C := RX8) (T := TX8) (N := 2) hx hb hts inT_X8 hown hK.1 hP 0 rfl rfl 1 (by decide) (hts _ k_151) (fun _ h9 => h9) rfl dX8_put_34 ?_
      refine lv_iconst (v := 1) hx hb dX8_put_37 (by decide) ?_
      refine lv_iadd hx hb dX8_put_38 ?_
      refine lv_topv (y := nI ((tu + 1) + 1)) (nI_add (tu + 1) 1) ?_
      refine va_put (D := D) (ci := 8) (v := .int (nI ((tu + 1) + 1))) (ty := .int) (C := RX8) (T := TX8) (N := 2) hx hb hts inT_X8 tyX8 tyX8_ok nmX8 hown hK.1 hP hD hS 0 rfl rfl 1 (by decide) (hts _ k_151) (fun _ h9 => h9) rfl (by decide +kernel) rfl rfl (Nat.le_of_ble_eq_true rfl) dX8_put_39 (fun H locs hP hD hS => ?_)
      have hP : va_P D vwCl [(a 1, .inr (8, [.ref (a 17), .int (nI ((tu + 1) + 1))])), (a 17, .inl (cB, 220, .inl f_19))] H := hP
      have hD : va_D A [(a 1, .inr (8, [.ref (a 17), .int (nI ((tu + 1) + 1))])), (a 17, .inl (cB, 220, .inl f_19))] := hD
      refine lv_iinc (v := 8) (lv' := [(2, .int 8), (0, .ref (a 1)), (1, .int n1)]) hx hb dX8_put_42 hl (k := 0) rfl (by decide) (by decide) rfl (fun ls hl => ?_)
      refine lv_goto (tgt := 3) hx hb dX8_put_45 (by decide) ?_
      refine lv_iload_n hx hb dX8_put_3 rfl (lv_at hl 0 rfl) ?_
      refine lv_if_lt (tgt := 48) hx hb dX8_put_4 (by decide) (fun c => absurd c (by decide)) (fun _ => ?_)
      refine lv_aload_n hx hb dX8_put_7 rfl (lv_at hl 1 rfl) ?_
      refine va_get (D := D) (ci := 8) (v := .int (nI ((tu + 1) + 1))) (C := RX8) (T := TX8) (N := 2) hx hb hts inT_X8 hown hK.1 hP 0 rfl rfl 1 (by decide) (hts _ k_151) (fun _ h9 => h9) rfl dX8_put_8 ?_
      refine lv_aload_n hx hb dX8_put_11 rfl (lv_at hl 1 rfl) ?_
      refine va_get (D := D) (ci := 8) (v := .ref (a 17)) (C := RX8) (T := TX8) (N := 2) hx hb hts inT_X8 hown hK.1 hP 0 rfl rfl 0 (by decide) (hts _ k_150) (fun _ h9 => h9) rfl dX8_put_12 ?_
      refine ln_x (v := 220) hx hb hK hP 1 1 rfl rfl (show Int32.ofNat 220 = 220 from by decide) dX8_put_15 ?_
      refine lv_icmp_ge (tgt := 48) hx hb dX8_put_16 (by decide) (fun c_21 => ?_) (fun c_21 => ?_)
      · have n_22 : 220 ≤ ((tu + 1) + 1) := (lf_X8_put_23 a tu tb n1 htu c_1 n_5 x_7 x_8 f_9 c_11 n_15 x_17 x_18 f_19 c_21)
        exact W.vret hx hb hr (fun tt9 ht hW => ⟨⟨((((tu + 1) + 1) : Nat), (f_19 : Nat → Int32)), rfl, (lf_X8_put_24 a tu tb n1 htu c_1 n_5 x_7 x_8 f_9 c_11 n_15 x_17 x_18 f_19 c_21 n_22), ⟨by rw [ht]; exact hP, hD⟩⟩, hS.F ht⟩) hS.2.2 dX8_put_48 hlocks
      · have n_25 : ((tu + 1) + 1) < 220 := (lf_X8_put_26 a tu tb n1 htu c_1 n_5 x_7 x_8 f_9 c_11 n_15 x_17 x_18 f_19 c_21)
        refine lv_aload_n hx hb dX8_put_19 rfl (lv_at hl 1 rfl) ?_
        refine va_get (D := D) (ci := 8) (v := .ref (a 17)) (C := RX8) (T := TX8) (N := 2) hx hb hts inT_X8 hown hK.1 hP 0 rfl rfl 0 (by decide) (hts _ k_150) (fun _ h9 => h9) rfl dX8_put_20 ?_
        refine lv_aload_n hx hb dX8_put_23 rfl (lv_at hl 1 rfl) ?_
        refine va_get (D := D) (ci := 8) (v := .int (nI ((tu + 1) + 1))) (C := RX8) (T := TX8) (N := 2) hx hb hts inT_X8 hown hK.1 hP 0 rfl rfl 1 (by decide) (hts _ k_151) (fun _ h9 => h9) rfl dX8_put_24 ?_
        refine lv_iload_n hx hb dX8_put_27 rfl (lv_at hl 2 rfl) ?_
        refine lv_iload_n hx hb dX8_put_28 rfl (lv_at hl 0 rfl) ?_
        refine lv_iushr hx hb dX8_put_29 rfl ?_
        refine lv_topi (fun x_27 _ => ?_)
        refine lv_i2b hx hb dX8_put_30 rfl ?_
        refine lv_topi (fun x_28 _ => ?_)
        refine st_b hx hb hK hP hD hS 1 rfl (lf_X8_put_30 a tu tb n1 htu c_1 n_5 x_7 x_8 f_9 c_11 n_15 x_17 x_18 f_19 c_21 n_25 x_27 x_28) dX8_put_31 (fun f_29 H locs hP hD hS => ?_)
        have hP : va_P D vwCl [(a 1, .inr (8, [.ref (a 17), .int (nI ((tu + 1) + 1))])), (a 17, .inl (cB, 220, .inl f_29))] H := hP
        have hD : va_D A [(a 1, .inr (8, [.ref (a 17), .int (nI ((tu + 1) + 1))])), (a 17, .inl (cB, 220, .inl f_29))] := hD
        refine lv_aload_n hx hb dX8_put_32 rfl (lv_at hl 1 rfl) ?_
        refine lv_dup hx hb dX8_put_33 rfl ?_
        refine va_get (D := D) (ci := 8) (v := .int (nI ((tu + 1) + 1))) (C := RX8) (T := TX8) (N := 2) hx hb hts inT_X8 hown hK.1 hP 0 rfl rfl 1 (by decide) (hts _ k_151) (fun _ h9 => h9) rfl dX8_put_34 ?_
        refine lv_iconst (v := 1) hx hb dX8_put_37 (by decide) ?_
        refine lv_iadd hx hb dX8_put_38 ?_
        refine lv_topv (y := nI (((tu + 1) + 1) + 1)) (nI_add ((tu + 1) + 1) 1) ?_
        refine va_put (D := D) (ci := 8) (v := .int (nI (((tu + 1) + 1) + 1))) (ty := .int) (C := RX8) (T := TX8) (N := 2) hx hb hts inT_X8 tyX8 tyX8_ok nmX8 hown hK.1 hP hD hS 0 rfl rfl 1 (by decide) (hts _ k_151) (fun _ h9 => h9) rfl (by decide +kernel) rfl rfl (Nat.le_of_ble_eq_true rfl) dX8_put_39 (fun H locs hP hD hS => ?_)
        have hP : va_P D vwCl [(a 1, .inr (8, [.ref (a 17), .int (nI (((tu + 1) + 1) + 1))])), (a 17, .inl (cB, 220, .inl f_29))] H := hP
        have hD : va_D A [(a 1, .inr (8, [.ref (a 17), .int (nI (((tu + 1) + 1) + 1))])), (a 17, .inl (cB, 220, .inl f_29))] := hD
        refine lv_iinc (v := 0) (lv' := [(2, .int 0), (0, .ref (a 1)), (1, .int n1)]) hx hb dX8_put_42 hl (k := 0) rfl (by decide) (by decide) rfl (fun ls hl => ?_)
        refine lv_goto (tgt := 3) hx hb dX8_put_45 (by decide) ?_
        refine lv_iload_n hx hb dX8_put_3 rfl (lv_at hl 0 rfl) ?_
        refine lv_if_lt (tgt := 48) hx hb dX8_put_4 (by decide) (fun c => absurd c (by decide)) (fun _ => ?_)
        refine lv_aload_n hx hb dX8_put_7 rfl (lv_at hl 1 rfl) ?_
        refine va_get (D := D) (ci := 8) (v := .int (nI (((tu + 1) + 1) + 1))) (C := RX8) (T := TX8) (N := 2) hx hb hts inT_X8 hown hK.1 hP 0 rfl rfl 1 (by decide) (hts _ k_151) (fun _ h9 => h9) rfl dX8_put_8 ?_
        refine lv_aload_n hx hb dX8_put_11 rfl (lv_at hl 1 rfl) ?_
        refine va_get (D := D) (ci := 8) (v := .ref (a 17)) (C := RX8) (T := TX8) (N := 2) hx hb hts inT_X8 hown hK.1 hP 0 rfl rfl 0 (by decide) (hts _ k_150) (fun _ h9 => h9) rfl dX8_put_12 ?_
        refine ln_x (v := 220) hx hb hK hP 1 1 rfl rfl (show Int32.ofNat 220 = 220 from by decide) dX8_put_15 ?_
        refine lv_icmp_ge (tgt := 48) hx hb dX8_put_16 (by decide) (fun c_31 => ?_) (fun c_31 => ?_)
        · have n_32 : 220 ≤ (((tu + 1) + 1) + 1) := (lf_X8_put_33 a tu tb n1 htu c_1 n_5 x_7 x_8 f_9 c_11 n_15 x_17 x_18 f_19 c_21 n_25 x_27 x_28 f_29 c_31)
          exact W.vret hx hb hr (fun tt9 ht hW => ⟨⟨(((((tu + 1) + 1) + 1) : Nat), (f_29 : Nat → Int32)), rfl, (lf_X8_put_34 a tu tb n1 htu c_1 n_5 x_7 x_8 f_9 c_11 n_15 x_17 x_18 f_19 c_21 n_25 x_27 x_28 f_29 c_31 n_32), ⟨by rw [ht]; exact hP, hD⟩⟩, hS.F ht⟩) hS.2.2 dX8_put_48 hlocks
        · have n_35 : (((tu + 1) + 1) + 1) < 220 := (lf_X8_put_36 a tu tb n1 htu c_1 n_5 x_7 x_8 f_9 c_11 n_15 x_17 x_18 f_19 c_21 n_25 x_27 x_28 f_29 c_31)
          refine lv_aload_n hx hb dX8_put_19 rfl (lv_at hl 1 rfl) ?_
          refine va_get (D := D) (ci := 8) (v := .ref (a 17)) (C := RX8) (T := TX8) (N := 2) hx hb hts inT_X8 hown hK.1 hP 0 rfl rfl 0 (by decide) (hts _ k_150) (fun _ h9 => h9) rfl dX8_put_20 ?_
          refine lv_aload_n hx hb dX8_put_23 rfl (lv_at hl 1 rfl) ?_
          refine va_get (D := D) (ci := 8) (v := .int (nI (((tu + 1) + 1) + 1))) (C := RX8) (T := TX8) (N := 2) hx hb hts inT_X8 hown hK.1 hP 0 rfl rfl 1 (by decide) (hts _ k_151) (fun _ h9 => h9) rfl dX8_put_24 ?_
          refine lv_iload_n hx hb dX8_put_27 rfl (lv_at hl 2 rfl) ?_
          refine lv_iload_n hx hb dX8_put_28 rfl (lv_at hl 0 rfl) ?_
          refine lv_iushr hx hb dX8_put_29 rfl ?_
          refine lv_topi (fun x_37 _ => ?_)
          refine lv_i2b hx hb dX8_put_30 rfl ?_
          refine lv_topi (fun x_38 _ => ?_)
          refine st_b hx hb hK hP hD hS 1 rfl (lf_X8_put_40 a tu tb n1 htu c_1 n_5 x_7 x_8 f_9 c_11 n_15 x_17 x_18 f_19 c_21 n_25 x_27 x_28 f_29 c_31 n_35 x_37 x_38) dX8_put_31 (fun f_39 H locs hP hD hS => ?_)
          have hP : va_P D vwCl [(a 1, .inr (8, [.ref (a 17), .int (nI (((tu + 1) + 1) + 1))])), (a 17, .inl (cB, 220, .inl f_39))] H := hP
          have hD : va_D A [(a 1, .inr (8, [.ref (a 17), .int (nI (((tu + 1) + 1) + 1))])), (a 17, .inl (cB, 220, .inl f_39))] := hD
          refine lv_aload_n hx hb dX8_put_32 rfl (lv_at hl 1 rfl) ?_
          refine lv_dup hx hb dX8_put_33 rfl ?_
          refine va_get (D := D) (ci := 8) (v := .int (nI (((tu + 1) + 1) + 1))) (C := RX8) (T := TX8) (N := 2) hx hb hts inT_X8 hown hK.1 hP 0 rfl rfl 1 (by decide) (hts _ k_151) (fun _ h9 => h9) rfl dX8_put_34 ?_
          refine lv_iconst (v := 1) hx hb dX8_put_37 (by decide) ?_
          refine lv_iadd hx hb dX8_put_38 ?_
          refine lv_topv (y := nI ((((tu + 1) + 1) + 1) + 1)) (nI_add (((tu + 1) + 1) + 1) 1) ?_
          refine va_put (D := D) (ci := 8) (v := .int (nI ((((tu + 1) + 1) + 1) + 1))) (ty := .int) (C := RX8) (T := TX8) (N := 2) hx hb hts inT_X8 tyX8 tyX8_ok nmX8 hown hK.1 hP hD hS 0 rfl rfl 1 (by decide) (hts _ k_151) (fun _ h9 => h9) rfl (by decide +kernel) rfl rfl (Nat.le_of_ble_eq_true rfl) dX8_put_39 (fun H locs hP hD hS => ?_)
          have hP : va_P D vwCl [(a 1, .inr (8, [.ref (a 17), .int (nI ((((tu + 1) + 1) + 1) + 1))])), (a 17, .inl (cB, 220, .inl f_39))] H := hP
          have hD : va_D A [(a 1, .inr (8, [.ref (a 17), .int (nI ((((tu + 1) + 1) + 1) + 1))])), (a 17, .inl (cB, 220, .inl f_39))] := hD
          refine lv_iinc (v := (-8)) (lv' := [(2, .int (-8)), (0, .ref (a 1)), (1, .int n1)]) hx hb dX8_put_42 hl (k := 0) rfl (by decide) (by decide) rfl (fun ls hl => ?_)
          refine lv_goto (tgt := 3) hx hb dX8_put_45 (by decide) ?_
          refine lv_iload_n hx hb dX8_put_3 rfl (lv_at hl 0 rfl) ?_
          refine lv_if_lt (tgt := 48) hx hb dX8_put_4 (by decide) (fun _ => ?_) (fun c => absurd c (by decide))
          exact W.vret hx hb hr (fun tt9 ht hW => ⟨⟨((((((tu + 1) + 1) + 1) + 1) : Nat), (f_39 : Nat → Int32)), rfl, (lf_X8_put_41 a tu tb n1 htu c_1 n_5 x_7 x_8 f_9 c_11 n_15 x_17 x_18 f_19 c_21 n_25 x_27 x_28 f_29 c_31 n_35 x_37 x_38 f_39), ⟨by rw [ht]; exact hP, hD⟩⟩, hS.F ht⟩) hS.2.2 dX8_put_48 hlocks

set_option maxHeartbeats 4000000 in
set_option maxRecDepth 100000 in
theorem c_X8_hasRoom (l : Launch) (D : va_G) (cI cB cZ cJ : ClassId) (tx : List (ClassId × FieldType)) (a : Nat → Nat) (tu : Nat) (tb : Nat → Int32) (n1 : Int32) : RdI l D cI cB cZ cJ tx yX8_hasRoom cX8_hasRoom 2 (some .boolean) 0 [.ref (a 1), .int n1] [(a 1, .inr (8, [.ref (a 17), .int (nI tu)])), (a 17, .inl (cB, 220, .inl tb))] (fun r => True) := by
  refine rdi_of2 (by decide) (Nat.le_of_ble_eq_true rfl) ?_
  intro p e s m below meth c A ls H locs hC hK hP hD hA hS hl
  obtain ⟨hx, hb, hr, hml, hown, hts, hlocks, hin⟩ := hC
  have hown : s.vm.findClass RX8 = some m.cls := hown
  have hl : lv_has ls 2 [(0, .ref (a 1)), (1, .int n1)] := hl
  refine lv_iload_n hx hb dX8_hasRoom_0 rfl (lv_at hl 1 rfl) ?_
  refine lv_aload_n hx hb dX8_hasRoom_1 rfl (lv_at hl 0 rfl) ?_
  refine va_get (D := D) (ci := 8) (v := .ref (a 17)) (C := RX8) (T := TX8) (N := 2) hx hb hts inT_X8 hown hK.1 hP 0 rfl rfl 0 (by decide) (hts _ k_150) (fun _ h9 => h9) rfl dX8_hasRoom_2 ?_
  refine ln_x (v := 220) hx hb hK hP 1 1 rfl rfl (show Int32.ofNat 220 = 220 from by decide) dX8_hasRoom_5 ?_
  refine lv_aload_n hx hb dX8_hasRoom_6 rfl (lv_at hl 0 rfl) ?_
  refine va_get (D := D) (ci := 8) (v := .int (nI tu)) (C := RX8) (T := TX8) (N := 2) hx hb hts inT_X8 hown hK.1 hP 0 rfl rfl 1 (by decide) (hts _ k_151) (fun _ h9 => h9) rfl dX8_hasRoom_7 ?_
  refine lv_isub hx hb dX8_hasRoom_10 ?_
  refine lv_topi (fun x_1 ex_1 => ?_)
  refine lv_icmp_gt (tgt := 18) hx hb dX8_hasRoom_11 (by decide) (fun c_2 => ?_) (fun c_2 => ?_)
  · refine lv_iconst (v := 0) hx hb dX8_hasRoom_18 (by decide) ?_
    exact W.zret (v := 0) hx hb hr (by decide) (fun tt9 ht hW => ⟨⟨(0 : Int32), (), rfl, trivial, trivial⟩, hS.F ht⟩) hS.2.2 dX8_hasRoom_19 hlocks
  · refine lv_iconst (v := 1) hx hb dX8_hasRoom_14 (by decide) ?_
    refine lv_goto (tgt := 19) hx hb dX8_hasRoom_15 (by decide) ?_
    exact W.zret (v := 1) hx hb hr (by decide) (fun tt9 ht hW => ⟨⟨(1 : Int32), (), rfl, trivial, trivial⟩, hS.F ht⟩) hS.2.2 dX8_hasRoom_19 hlocks

theorem lf_X9_clear_1 (t : Nat → Nat) (un : Nat) (k1 : Nat) (p1 : Nat) (rf : Int32) : ((0 : Nat) ≤ 200) ∧ ((0 : Nat) ≤ 14) := by
  exact ⟨by omega, by omega⟩
set_option maxHeartbeats 4000000 in
set_option maxRecDepth 100000 in
theorem c_X9_clear (l : Launch) (D : va_G) (cI cB cZ cJ : ClassId) (tx : List (ClassId × FieldType)) (t : Nat → Nat) (un : Nat) (k1 : Nat) (p1 : Nat) (rf : Int32) : WrV l D cI cB cZ cJ tx yX9_clear cX9_clear 1 none 0 0 0 [.ref (t 0)] [(t 0, .inr (9, [.ref (t 1), .ref (t 2), .ref (t 3), .ref (t 4), .ref (t 5), .int (nI un), .int (nI k1), .int (nI p1), .int rf]))] (fun (v : (Nat) × (Nat)) => (v.1 ≤ 200) ∧ (v.2 ≤ 14)) (fun v => [(t 0, .inr (9, [.ref (t 1), .ref (t 2), .ref (t 3), .ref (t 4), .ref (t 5), .int (nI (v.1)), .int (nI (v.2)), .int (nI p1), .int rf]))]) := by
  refine wrv_of2 (by decide) (Nat.le_of_ble_eq_true rfl) ?_
  intro p e s m below meth c A ls H locs hC hK hP hD hA hS hl
  obtain ⟨hx, hb, hr, hml, hown, hts, hlocks, hin⟩ := hC
  have hown : s.vm.findClass RX9 = some m.cls := hown
  have hl : lv_has ls 1 [(0, .ref (t 0))] := hl
  refine lv_aload_n hx hb dX9_clear_0 rfl (lv_at hl 0 rfl) ?_
  refine lv_iconst (v := 0) hx hb dX9_clear_1 (by decide) ?_
  refine va_put (D := D) (ci := 9) (v := .int 0) (ty := .int) (C := RX9) (T := TX9) (N := 9) hx hb hts inT_X9 tyX9 tyX9_ok nmX9 hown hK.1 hP hD hS 0 rfl rfl 5 (by decide) (hts _ k_199) (fun _ h9 => h9) rfl (by decide +kernel) rfl rfl (Nat.le_of_ble_eq_true rfl) dX9_clear_2 (fun H locs hP hD hS => ?_)
  have hP : va_P D vwCl [(t 0, .inr (9, [.ref (t 1), .ref (t 2), .ref (t 3), .ref (t 4), .ref (t 5), .int 0, .int (nI k1), .int (nI p1), .int rf]))] H := hP
  have hD : va_D A [(t 0, .inr (9, [.ref (t 1), .ref (t 2), .ref (t 3), .ref (t 4), .ref (t 5), .int 0, .int (nI k1), .int (nI p1), .int rf]))] := hD
  refine lv_aload_n hx hb dX9_clear_5 rfl (lv_at hl 0 rfl) ?_
  refine lv_iconst (v := 0) hx hb dX9_clear_6 (by decide) ?_
  refine va_put (D := D) (ci := 9) (v := .int 0) (ty := .int) (C := RX9) (T := TX9) (N := 9) hx hb hts inT_X9 tyX9 tyX9_ok nmX9 hown hK.1 hP hD hS 0 rfl rfl 6 (by decide) (hts _ k_200) (fun _ h9 => h9) rfl (by decide +kernel) rfl rfl (Nat.le_of_ble_eq_true rfl) dX9_clear_7 (fun H locs hP hD hS => ?_)
  have hP : va_P D vwCl [(t 0, .inr (9, [.ref (t 1), .ref (t 2), .ref (t 3), .ref (t 4), .ref (t 5), .int 0, .int 0, .int (nI p1), .int rf]))] H := hP
  have hD : va_D A [(t 0, .inr (9, [.ref (t 1), .ref (t 2), .ref (t 3), .ref (t 4), .ref (t 5), .int 0, .int 0, .int (nI p1), .int rf]))] := hD
  exact W.vret hx hb hr (fun tt9 ht hW => ⟨⟨((0 : Nat), (0 : Nat)), rfl, (lf_X9_clear_1 t un k1 p1 rf), ⟨by rw [ht]; exact hP, hD⟩⟩, hS.F ht⟩) hS.2.2 dX9_clear_10 hlocks

theorem lf_X9_beginClause_3 (t : Nat → Nat) (un : Nat) (k1 : Nat) (p1 : Nat) (rf : Int32) (fa3 : Nat → Int32) (fa4 : Nat → Int32) (n1 : Int32) (hk1 : k1 ≤ 14) (c_1 : 14 ≤ nI k1) : 14 ≤ k1 := by
  exact (nI_leI (a := 14) (b := k1) (by omega) (by omega)).mp c_1
theorem lf_X9_beginClause_4 (t : Nat → Nat) (un : Nat) (k1 : Nat) (p1 : Nat) (rf : Int32) (fa3 : Nat → Int32) (fa4 : Nat → Int32) (n1 : Int32) (hk1 : k1 ≤ 14) (c_1 : 14 ≤ nI k1) (n_2 : 14 ≤ k1) : ((k1 : Nat) ≤ 14) := by
  first | omega | assumption | trivial
theorem lf_X9_beginClause_6 (t : Nat → Nat) (un : Nat) (k1 : Nat) (p1 : Nat) (rf : Int32) (fa3 : Nat → Int32) (fa4 : Nat → Int32) (n1 : Int32) (hk1 : k1 ≤ 14) (c_1 : ¬ 14 ≤ nI k1) : k1 < 14 := by
  exact Nat.lt_of_not_le (fun q => c_1 ((nI_leI (a := 14) (b := k1) (by omega) (by omega)).mpr q))
theorem lf_X9_beginClause_8 (t : Nat → Nat) (un : Nat) (k1 : Nat) (p1 : Nat) (rf : Int32) (fa3 : Nat → Int32) (fa4 : Nat → Int32) (n1 : Int32) (hk1 : k1 ≤ 14) (c_1 : ¬ 14 ≤ nI k1) (n_5 : k1 < 14) : vp_in (nI k1) 14 := by
  first | exact vp_in_nI (by omega) (by decide) | (unfold vp_in; decide)
theorem lf_X9_beginClause_10 (t : Nat → Nat) (un : Nat) (k1 : Nat) (p1 : Nat) (rf : Int32) (fa3 : Nat → Int32) (fa4 : Nat → Int32) (n1 : Int32) (hk1 : k1 ≤ 14) (c_1 : ¬ 14 ≤ nI k1) (n_5 : k1 < 14) (f_7 : Nat → Int32) : vp_in (nI k1) 14 := by
  first | exact vp_in_nI (by omega) (by decide) | (unfold vp_in; decide)
theorem lf_X9_beginClause_11 (t : Nat → Nat) (un : Nat) (k1 : Nat) (p1 : Nat) (rf : Int32) (fa3 : Nat → Int32) (fa4 : Nat → Int32) (n1 : Int32) (hk1 : k1 ≤ 14) (c_1 : ¬ 14 ≤ nI k1) (n_5 : k1 < 14) (f_7 : Nat → Int32) (f_9 : Nat → Int32) : (((k1 + 1) : Nat) ≤ 14) := by
  first | omega | assumption | trivial
set_option maxHeartbeats 4000000 in
set_option maxRecDepth 100000 in
theorem c_X9_beginClause (l : Launch) (D : va_G) (cI cB cZ cJ : ClassId) (tx : List (ClassId × FieldType)) (t : Nat → Nat) (un : Nat) (k1 : Nat) (p1 : Nat) (rf : Int32) (fa3 : Nat → Int32) (fa4 : Nat → Int32) (n1 : Int32) (hk1 : k1 ≤ 14) : WrV l D cI cB cZ cJ tx yX9_beginClause cX9_beginClause 2 none 0 0 0 [.ref (t 0), .int n1] [(t 0, .inr (9, [.ref (t 1), .ref (t 2), .ref (t 3), .ref (t 4), .ref (t 5), .int (nI un), .int (nI k1), .int (nI p1), .int rf])), (t 3, .inl (cI, 14, .inl fa3)), (t 4, .inl (cI, 14, .inl fa4))] (fun (v : (Nat) × (Nat → Int32) × (Nat → Int32)) => (v.1 ≤ 14)) (fun v => [(t 0, .inr (9, [.ref (t 1), .ref (t 2), .ref (t 3), .ref (t 4), .ref (t 5), .int (nI un), .int (nI (v.1)), .int (nI p1), .int rf])), (t 3, .inl (cI, 14, .inl v.2.1)), (t 4, .inl (cI, 14, .inl v.2.2))]) := by
  refine wrv_of2 (by decide) (Nat.le_of_ble_eq_true rfl) ?_
  intro p e s m below meth c A ls H locs hC hK hP hD hA hS hl
  obtain ⟨hx, hb, hr, hml, hown, hts, hlocks, hin⟩ := hC
  have hown : s.vm.findClass RX9 = some m.cls := hown
  have hl : lv_has ls 2 [(0, .ref (t 0)), (1, .int n1)] := hl
  refine lv_aload_n hx hb dX9_beginClause_0 rfl (lv_at hl 0 rfl) ?_
  refine va_get (D := D) (ci := 9) (v := .int (nI k1)) (C := RX9) (T := TX9) (N := 9) hx hb hts inT_X9 hown hK.1 hP 0 rfl rfl 6 (by decide) (hts _ k_200) (fun _ h9 => h9) rfl dX9_beginClause_1 ?_
  refine lv_bipush (v := 14) hx hb dX9_beginClause_4 (by decide) ?_
  refine lv_icmp_ge (tgt := 42) hx hb dX9_beginClause_6 (by decide) (fun c_1 => ?_) (fun c_1 => ?_)
  · have n_2 : 14 ≤ k1 := (lf_X9_beginClause_3 t un k1 p1 rf fa3 fa4 n1 hk1 c_1)
    exact W.vret hx hb hr (fun tt9 ht hW => ⟨⟨((k1 : Nat), (fa3 : Nat → Int32), (fa4 : Nat → Int32)), rfl, (lf_X9_beginClause_4 t un k1 p1 rf fa3 fa4 n1 hk1 c_1 n_2), ⟨by rw [ht]; exact hP, hD⟩⟩, hS.F ht⟩) hS.2.2 dX9_beginClause_42 hlocks
  · have n_5 : k1 < 14 := (lf_X9_beginClause_6 t un k1 p1 rf fa3 fa4 n1 hk1 c_1)
    refine lv_aload_n hx hb dX9_beginClause_9 rfl (lv_at hl 0 rfl) ?_
    refine va_get (D := D) (ci := 9) (v := .ref (t 3)) (C := RX9) (T := TX9) (N := 9) hx hb hts inT_X9 hown hK.1 hP 0 rfl rfl 2 (by decide) (hts _ k_196) (fun _ h9 => h9) rfl dX9_beginClause_10 ?_
    refine lv_aload_n hx hb dX9_beginClause_13 rfl (lv_at hl 0 rfl) ?_
    refine va_get (D := D) (ci := 9) (v := .int (nI k1)) (C := RX9) (T := TX9) (N := 9) hx hb hts inT_X9 hown hK.1 hP 0 rfl rfl 6 (by decide) (hts _ k_200) (fun _ h9 => h9) rfl dX9_beginClause_14 ?_
    refine lv_iload_n hx hb dX9_beginClause_17 rfl (lv_at hl 1 rfl) ?_
    refine st_i hx hb hK hP hD hS 1 rfl (lf_X9_beginClause_8 t un k1 p1 rf fa3 fa4 n1 hk1 c_1 n_5) dX9_beginClause_18 (fun f_7 H locs hP hD hS => ?_)
    have hP : va_P D vwCl [(t 0, .inr (9, [.ref (t 1), .ref (t 2), .ref (t 3), .ref (t 4), .ref (t 5), .int (nI un), .int (nI k1), .int (nI p1), .int rf])), (t 3, .inl (cI, 14, .inl f_7)), (t 4, .inl (cI, 14, .inl fa4))] H := hP
    have hD : va_D A [(t 0, .inr (9, [.ref (t 1), .ref (t 2), .ref (t 3), .ref (t 4), .ref (t 5), .int (nI un), .int (nI k1), .int (nI p1), .int rf])), (t 3, .inl (cI, 14, .inl f_7)), (t 4, .inl (cI, 14, .inl fa4))] := hD
    refine lv_aload_n hx hb dX9_beginClause_19 rfl (lv_at hl 0 rfl) ?_
    refine va_get (D := D) (ci := 9) (v := .ref (t 4)) (C := RX9) (T := TX9) (N := 9) hx hb hts inT_X9 hown hK.1 hP 0 rfl rfl 3 (by decide) (hts _ k_197) (fun _ h9 => h9) rfl dX9_beginClause_20 ?_
    refine lv_aload_n hx hb dX9_beginClause_23 rfl (lv_at hl 0 rfl) ?_
    refine va_get (D := D) (ci := 9) (v := .int (nI k1)) (C := RX9) (T := TX9) (N := 9) hx hb hts inT_X9 hown hK.1 hP 0 rfl rfl 6 (by decide) (hts _ k_200) (fun _ h9 => h9) rfl dX9_beginClause_24 ?_
    refine lv_aload_n hx hb dX9_beginClause_27 rfl (lv_at hl 0 rfl) ?_
    refine va_get (D := D) (ci := 9) (v := .int (nI un)) (C := RX9) (T := TX9) (N := 9) hx hb hts inT_X9 hown hK.1 hP 0 rfl rfl 5 (by decide) (hts _ k_199) (fun _ h9 => h9) rfl dX9_beginClause_28 ?_
    refine st_i hx hb hK hP hD hS 2 rfl (lf_X9_beginClause_10 t un k1 p1 rf fa3 fa4 n1 hk1 c_1 n_5 f_7) dX9_beginClause_31 (fun f_9 H locs hP hD hS => ?_)
    have hP : va_P D vwCl [(t 0, .inr (9, [.ref (t 1), .ref (t 2), .ref (t 3), .ref (t 4), .ref (t 5), .int (nI un), .int (nI k1), .int (nI p1), .int rf])), (t 3, .inl (cI, 14, .inl f_7)), (t 4, .inl (cI, 14, .inl f_9))] H := hP
    have hD : va_D A [(t 0, .inr (9, [.ref (t 1), .ref (t 2), .ref (t 3), .ref (t 4), .ref (t 5), .int (nI un), .int (nI k1), .int (nI p1), .int rf])), (t 3, .inl (cI, 14, .inl f_7)), (t 4, .inl (cI, 14, .inl f_9))] := hD
    refine lv_aload_n hx hb dX9_beginClause_32 rfl (lv_at hl 0 rfl) ?_
    refine lv_dup hx hb dX9_beginClause_33 rfl ?_
    refine va_get (D := D) (ci := 9) (v := .int (nI k1)) (C := RX9) (T := TX9) (N := 9) hx hb hts inT_X9 hown hK.1 hP 0 rfl rfl 6 (by decide) (hts _ k_200) (fun _ h9 => h9) rfl dX9_beginClause_34 ?_
    refine lv_iconst (v := 1) hx hb dX9_beginClause_37 (by decide) ?_
    refine lv_iadd hx hb dX9_beginClause_38 ?_
    refine lv_topv (y := nI (k1 + 1)) (nI_add k1 1) ?_
    refine va_put (D := D) (ci := 9) (v := .int (nI (k1 + 1))) (ty := .int) (C := RX9) (T := TX9) (N := 9) hx hb hts inT_X9 tyX9 tyX9_ok nmX9 hown hK.1 hP hD hS 0 rfl rfl 6 (by decide) (hts _ k_200) (fun _ h9 => h9) rfl (by decide +kernel) rfl rfl (Nat.le_of_ble_eq_true rfl) dX9_beginClause_39 (fun H locs hP hD hS => ?_)
    have hP : va_P D vwCl [(t 0, .inr (9, [.ref (t 1), .ref (t 2), .ref (t 3), .ref (t 4), .ref (t 5), .int (nI un), .int (nI (k1 + 1)), .int (nI p1), .int rf])), (t 3, .inl (cI, 14, .inl f_7)), (t 4, .inl (cI, 14, .inl f_9))] H := hP
    have hD : va_D A [(t 0, .inr (9, [.ref (t 1), .ref (t 2), .ref (t 3), .ref (t 4), .ref (t 5), .int (nI un), .int (nI (k1 + 1)), .int (nI p1), .int rf])), (t 3, .inl (cI, 14, .inl f_7)), (t 4, .inl (cI, 14, .inl f_9))] := hD
    exact W.vret hx hb hr (fun tt9 ht hW => ⟨⟨(((k1 + 1) : Nat), (f_7 : Nat → Int32), (f_9 : Nat → Int32)), rfl, (lf_X9_beginClause_11 t un k1 p1 rf fa3 fa4 n1 hk1 c_1 n_5 f_7 f_9), ⟨by rw [ht]; exact hP, hD⟩⟩, hS.F ht⟩) hS.2.2 dX9_beginClause_42 hlocks

theorem lf_X9_beginCondition_3 (t : Nat → Nat) (un : Nat) (k1 : Nat) (p1 : Nat) (rf : Int32) (fa5 : Nat → Int32) (hk1 : k1 ≤ 14) (c_1 : nI k1 ≤ 0) : k1 ≤ 0 := by
  exact (nI_leI (a := k1) (b := 0) (by omega) (by omega)).mp c_1
theorem lf_X9_beginCondition_5 (t : Nat → Nat) (un : Nat) (k1 : Nat) (p1 : Nat) (rf : Int32) (fa5 : Nat → Int32) (hk1 : k1 ≤ 14) (c_1 : ¬ nI k1 ≤ 0) : 0 < k1 := by
  exact Nat.lt_of_not_le (fun q => c_1 ((nI_leI (a := k1) (b := 0) (by omega) (by omega)).mpr q))
theorem lf_X9_beginCondition_6 (t : Nat → Nat) (un : Nat) (k1 : Nat) (p1 : Nat) (rf : Int32) (fa5 : Nat → Int32) (hk1 : k1 ≤ 14) (c_1 : ¬ nI k1 ≤ 0) (n_4 : 0 < k1) : 1 ≤ k1 := by
  omega
theorem lf_X9_beginCondition_8 (t : Nat → Nat) (un : Nat) (k1 : Nat) (p1 : Nat) (rf : Int32) (fa5 : Nat → Int32) (hk1 : k1 ≤ 14) (c_1 : ¬ nI k1 ≤ 0) (n_4 : 0 < k1) : vp_in (nI (k1 - 1)) 14 := by
  first | exact vp_in_nI (by omega) (by decide) | (unfold vp_in; decide)
set_option maxHeartbeats 4000000 in
set_option maxRecDepth 100000 in
theorem c_X9_beginCondition (l : Launch) (D : va_G) (cI cB cZ cJ : ClassId) (tx : List (ClassId × FieldType)) (t : Nat → Nat) (un : Nat) (k1 : Nat) (p1 : Nat) (rf : Int32) (fa5 : Nat → Int32) (hk1 : k1 ≤ 14) : WrV l D cI cB cZ cJ tx yX9_beginCondition cX9_beginCondition 1 none 0 0 0 [.ref (t 0)] [(t 0, .inr (9, [.ref (t 1), .ref (t 2), .ref (t 3), .ref (t 4), .ref (t 5), .int (nI un), .int (nI k1), .int (nI p1), .int rf])), (t 5, .inl (cI, 14, .inl fa5))] (fun (v : (Nat → Int32)) => True) (fun v => [(t 0, .inr (9, [.ref (t 1), .ref (t 2), .ref (t 3), .ref (t 4), .ref (t 5), .int (nI un), .int (nI k1), .int (nI p1), .int rf])), (t 5, .inl (cI, 14, .inl v))]) := by
  refine wrv_of2 (by decide) (Nat.le_of_ble_eq_true rfl) ?_
  intro p e s m below meth c A ls H locs hC hK hP hD hA hS hl
  obtain ⟨hx, hb, hr, hml, hown, hts, hlocks, hin⟩ := hC
  have hown : s.vm.findClass RX9 = some m.cls := hown
  have hl : lv_has ls 1 [(0, .ref (t 0))] := hl
  refine lv_aload_n hx hb dX9_beginCondition_0 rfl (lv_at hl 0 rfl) ?_
  refine va_get (D := D) (ci := 9) (v := .int (nI k1)) (C := RX9) (T := TX9) (N := 9) hx hb hts inT_X9 hown hK.1 hP 0 rfl rfl 6 (by decide) (hts _ k_200) (fun _ h9 => h9) rfl dX9_beginCondition_1 ?_
  refine lv_if_le (tgt := 22) hx hb dX9_beginCondition_4 (by decide) (fun c_1 => ?_) (fun c_1 => ?_)
  · have n_2 : k1 ≤ 0 := (lf_X9_beginCondition_3 t un k1 p1 rf fa5 hk1 c_1)
    exact W.vret hx hb hr (fun tt9 ht hW => ⟨⟨((fa5 : Nat → Int32)), rfl, trivial, ⟨by rw [ht]; exact hP, hD⟩⟩, hS.F ht⟩) hS.2.2 dX9_beginCondition_22 hlocks
  · have n_4 : 0 < k1 := (lf_X9_beginCondition_5 t un k1 p1 rf fa5 hk1 c_1)
    refine lv_aload_n hx hb dX9_beginCondition_7 rfl (lv_at hl 0 rfl) ?_
    refine va_get (D := D) (ci := 9) (v := .ref (t 5)) (C := RX9) (T := TX9) (N := 9) hx hb hts inT_X9 hown hK.1 hP 0 rfl rfl 4 (by decide) (hts _ k_198) (fun _ h9 => h9) rfl dX9_beginCondition_8 ?_
    refine lv_aload_n hx hb dX9_beginCondition_11 rfl (lv_at hl 0 rfl) ?_
    refine va_get (D := D) (ci := 9) (v := .int (nI k1)) (C := RX9) (T := TX9) (N := 9) hx hb hts inT_X9 hown hK.1 hP 0 rfl rfl 6 (by decide) (hts _ k_200) (fun _ h9 => h9) rfl dX9_beginCondition_12 ?_
    refine lv_iconst (v := 1) hx hb dX9_beginCondition_15 (by decide) ?_
    refine lv_isub hx hb dX9_beginCondition_16 ?_
    refine lv_topv (y := nI (k1 - 1)) (pk_sub (lf_X9_beginCondition_6 t un k1 p1 rf fa5 hk1 c_1 n_4)) ?_
    refine lv_aload_n hx hb dX9_beginCondition_17 rfl (lv_at hl 0 rfl) ?_
    refine va_get (D := D) (ci := 9) (v := .int (nI un)) (C := RX9) (T := TX9) (N := 9) hx hb hts inT_X9 hown hK.1 hP 0 rfl rfl 5 (by decide) (hts _ k_199) (fun _ h9 => h9) rfl dX9_beginCondition_18 ?_
    refine st_i hx hb hK hP hD hS 1 rfl (lf_X9_beginCondition_8 t un k1 p1 rf fa5 hk1 c_1 n_4) dX9_beginCondition_21 (fun f_7 H locs hP hD hS => ?_)
    have hP : va_P D vwCl [(t 0, .inr (9, [.ref (t 1), .ref (t 2), .ref (t 3), .ref (t 4), .ref (t 5), .int (nI un), .int (nI k1), .int (nI p1), .int rf])), (t 5, .inl (cI, 14, .inl f_7))] H := hP
    have hD : va_D A [(t 0, .inr (9, [.ref (t 1), .ref (t 2), .ref (t 3), .ref (t 4), .ref (t 5), .int (nI un), .int (nI k1), .int (nI p1), .int rf])), (t 5, .inl (cI, 14, .inl f_7))] := hD
    exact W.vret hx hb hr (fun tt9 ht hW => ⟨⟨((f_7 : Nat → Int32)), rfl, trivial, ⟨by rw [ht]; exact hP, hD⟩⟩, hS.F ht⟩) hS.2.2 dX9_beginCondition_22 hlocks

theorem lf_X9_add_3 (t : Nat → Nat) (un : Nat) (k1 : Nat) (p1 : Nat) (rf : Int32) (fs : Nat → Int32) (k0 : Nat) (o0 : Nat) (hun : un ≤ 200) (hst : ∀ j, j < 200 → 0 ≤ fs j) (hk0 : k0 < 16) (ho0 : o0 ≤ 99999) (c_1 : nI un < 200) : un < 200 := by
  exact (nI_ltI (a := un) (b := 200) (by omega) (by omega)).mp c_1
theorem lf_X9_add_7 (t : Nat → Nat) (un : Nat) (k1 : Nat) (p1 : Nat) (rf : Int32) (fs : Nat → Int32) (k0 : Nat) (o0 : Nat) (hun : un ≤ 200) (hst : ∀ j, j < 200 → 0 ≤ fs j) (hk0 : k0 < 16) (ho0 : o0 ≤ 99999) (c_1 : nI un < 200) (n_2 : un < 200) (x_4 : Int32) (ex_4 : x_4 = nI o0 <<< (4 &&& 31)) (x_5 : Int32) (ex_5 : x_5 = x_4 ||| nI k0) : un < 200 := by
  omega
theorem lf_X9_add_8 (t : Nat → Nat) (un : Nat) (k1 : Nat) (p1 : Nat) (rf : Int32) (fs : Nat → Int32) (k0 : Nat) (o0 : Nat) (hun : un ≤ 200) (hst : ∀ j, j < 200 → 0 ≤ fs j) (hk0 : k0 < 16) (ho0 : o0 ≤ 99999) (c_1 : nI un < 200) (n_2 : un < 200) (x_4 : Int32) (ex_4 : x_4 = nI o0 <<< (4 &&& 31)) (x_5 : Int32) (ex_5 : x_5 = x_4 ||| nI k0) (f_6 : Nat → Int32) (ef_6 : f_6 = upd fs un x_5) : 1 ≤ (un + 1) := by
  omega
theorem lf_X9_add_9 (t : Nat → Nat) (un : Nat) (k1 : Nat) (p1 : Nat) (rf : Int32) (fs : Nat → Int32) (k0 : Nat) (o0 : Nat) (hun : un ≤ 200) (hst : ∀ j, j < 200 → 0 ≤ fs j) (hk0 : k0 < 16) (ho0 : o0 ≤ 99999) (c_1 : nI un < 200) (n_2 : un < 200) (x_4 : Int32) (ex_4 : x_4 = nI o0 <<< (4 &&& 31)) (x_5 : Int32) (ex_5 : x_5 = x_4 ||| nI k0) (f_6 : Nat → Int32) (ef_6 : f_6 = upd fs un x_5) : (∃ m : Nat, m ≤ 200 ∧ (nI ((un + 1) - 1) : Int32) = nI m) ∧ (((un + 1) : Nat) ≤ 200) ∧ (∀ j, j < 200 → 0 ≤ (f_6 : Nat → Int32) j) := by
  first
    | exact ⟨⟨_, by omega, rfl⟩, by omega, hst⟩
    | (refine ⟨⟨_, ?_, rfl⟩, ?_, st_upd hst (by assumption) ?_⟩
       · omega
       · omega
       · subst_vars; exact nn_or k0 (by omega) (by omega) rfl)
theorem lf_X9_add_11 (t : Nat → Nat) (un : Nat) (k1 : Nat) (p1 : Nat) (rf : Int32) (fs : Nat → Int32) (k0 : Nat) (o0 : Nat) (hun : un ≤ 200) (hst : ∀ j, j < 200 → 0 ≤ fs j) (hk0 : k0 < 16) (ho0 : o0 ≤ 99999) (c_1 : ¬ nI un < 200) : 200 ≤ un := by
  exact Nat.le_of_not_lt (fun q => c_1 ((nI_ltI (a := un) (b := 200) (by omega) (by omega)).mpr q))
theorem lf_X9_add_12 (t : Nat → Nat) (un : Nat) (k1 : Nat) (p1 : Nat) (rf : Int32) (fs : Nat → Int32) (k0 : Nat) (o0 : Nat) (hun : un ≤ 200) (hst : ∀ j, j < 200 → 0 ≤ fs j) (hk0 : k0 < 16) (ho0 : o0 ≤ 99999) (c_1 : ¬ nI un < 200) (n_10 : 200 ≤ un) : (∃ m : Nat, m ≤ 200 ∧ (nI un : Int32) = nI m) ∧ ((un : Nat) ≤ 200) ∧ (∀ j, j < 200 → 0 ≤ (fs : Nat → Int32) j) := by
  first
    | exact ⟨⟨_, by omega, rfl⟩, by omega, hst⟩
    | (refine ⟨⟨_, ?_, rfl⟩, ?_, st_upd hst (by assumption) ?_⟩
       · omega
       · omega
       · subst_vars; exact nn_or k0 (by omega) (by omega) rfl)
set_option maxHeartbeats 4000000 in
set_option maxRecDepth 100000 in
theorem c_X9_add (l : Launch) (D : va_G) (cI cB cZ cJ : ClassId) (tx : List (ClassId × FieldType)) (t : Nat → Nat) (un : Nat) (k1 : Nat) (p1 : Nat) (rf : Int32) (fs : Nat → Int32) (k0 : Nat) (o0 : Nat) (hun : un ≤ 200) (hst : ∀ j, j < 200 → 0 ≤ fs j) (hk0 : k0 < 16) (ho0 : o0 ≤ 99999) : WrI l D cI cB cZ cJ tx yX9_add cX9_add 3 (some .int) 0 0 0 [.ref (t 0), .int (nI k0), .int (nI o0)] [(t 0, .inr (9, [.ref (t 1), .ref (t 2), .ref (t 3), .ref (t 4), .ref (t 5), .int (nI un), .int (nI k1), .int (nI p1), .int rf])), (t 1, .inl (cI, 200, .inl fs))] (fun (r : Int32) (v : (Nat) × (Nat → Int32)) => (∃ m : Nat, m ≤ 200 ∧ r = nI m) ∧ (v.1 ≤ 200) ∧ (∀ j, j < 200 → 0 ≤ v.2 j)) (fun v => [(t 0, .inr (9, [.ref (t 1), .ref (t 2), .ref (t 3), .ref (t 4), .ref (t 5), .int (nI (v.1)), .int (nI k1), .int (nI p1), .int rf])), (t 1, .inl (cI, 200, .inl v.2))]) := by
  refine wri_of2 (by decide) (Nat.le_of_ble_eq_true rfl) ?_
  intro p e s m below meth c A ls H locs hC hK hP hD hA hS hl
  obtain ⟨hx, hb, hr, hml, hown, hts, hlocks, hin⟩ := hC
  have hown : s.vm.findClass RX9 = some m.cls := hown
  have hl : lv_has ls 3 [(0, .ref (t 0)), (1, .int (nI k0)), (2, .int (nI o0))] := hl
  refine lv_aload_n hx hb dX9_add_0 rfl (lv_at hl 0 rfl) ?_
  refine va_get (D := D) (ci := 9) (v := .int (nI un)) (C := RX9) (T := TX9) (N := 9) hx hb hts inT_X9 hown hK.1 hP 0 rfl rfl 5 (by decide) (hts _ k_199) (fun _ h9 => h9) rfl dX9_add_1 ?_
  refine lv_aload_n hx hb dX9_add_4 rfl (lv_at hl 0 rfl) ?_
  refine va_get (D := D) (ci := 9) (v := .ref (t 1)) (C := RX9) (T := TX9) (N := 9) hx hb hts inT_X9 hown hK.1 hP 0 rfl rfl 0 (by decide) (hts _ k_194) (fun _ h9 => h9) rfl dX9_add_5 ?_
  refine ln_x (v := 200) hx hb hK hP 1 0 rfl rfl (show Int32.ofNat 200 = 200 from by decide) dX9_add_8 ?_
  refine lv_icmp_lt (tgt := 17) hx hb dX9_add_9 (by decide) (fun c_1 => ?_) (fun c_1 => ?_)
  · have n_2 : un < 200 := (lf_X9_add_3 t un k1 p1 rf fs k0 o0 hun hst hk0 ho0 c_1)
    refine lv_aload_n hx hb dX9_add_17 rfl (lv_at hl 0 rfl) ?_
    refine va_get (D := D) (ci := 9) (v := .ref (t 1)) (C := RX9) (T := TX9) (N := 9) hx hb hts inT_X9 hown hK.1 hP 0 rfl rfl 0 (by decide) (hts _ k_194) (fun _ h9 => h9) rfl dX9_add_18 ?_
    refine lv_aload_n hx hb dX9_add_21 rfl (lv_at hl 0 rfl) ?_
    refine va_get (D := D) (ci := 9) (v := .int (nI un)) (C := RX9) (T := TX9) (N := 9) hx hb hts inT_X9 hown hK.1 hP 0 rfl rfl 5 (by decide) (hts _ k_199) (fun _ h9 => h9) rfl dX9_add_22 ?_
    refine lv_iload_n hx hb dX9_add_25 rfl (lv_at hl 2 rfl) ?_
    refine lv_iconst (v := 4) hx hb dX9_add_26 (by decide) ?_
    refine lv_ishl hx hb dX9_add_27 ?_
    refine lv_topi (fun x_4 ex_4 => ?_)
    refine lv_iload_n hx hb dX9_add_28 rfl (lv_at hl 1 rfl) ?_
    refine lv_ior hx hb dX9_add_29 ?_
    refine lv_topi (fun x_5 ex_5 => ?_)
    refine su_i (j := un) hx hb hK hP hD hS 1 rfl (lf_X9_add_7 t un k1 p1 rf fs k0 o0 hun hst hk0 ho0 c_1 n_2 x_4 ex_4 x_5 ex_5) (by decide) dX9_add_30 (fun f_6 H locs ef_6 hP hD hS => ?_)
    have hP : va_P D vwCl [(t 0, .inr (9, [.ref (t 1), .ref (t 2), .ref (t 3), .ref (t 4), .ref (t 5), .int (nI un), .int (nI k1), .int (nI p1), .int rf])), (t 1, .inl (cI, 200, .inl f_6))] H := hP
    have hD : va_D A [(t 0, .inr (9, [.ref (t 1), .ref (t 2), .ref (t 3), .ref (t 4), .ref (t 5), .int (nI un), .int (nI k1), .int (nI p1), .int rf])), (t 1, .inl (cI, 200, .inl f_6))] := hD
    refine lv_aload_n hx hb dX9_add_31 rfl (lv_at hl 0 rfl) ?_
    refine lv_dup hx hb dX9_add_32 rfl ?_
    refine va_get (D := D) (ci := 9) (v := .int (nI un)) (C := RX9) (T := TX9) (N := 9) hx hb hts inT_X9 hown hK.1 hP 0 rfl rfl 5 (by decide) (hts _ k_199) (fun _ h9 => h9) rfl dX9_add_33 ?_
    refine lv_iconst (v := 1) hx hb dX9_add_36 (by decide) ?_
    refine lv_iadd hx hb dX9_add_37 ?_
    refine lv_topv (y := nI (un + 1)) (nI_add un 1) ?_
    refine va_put (D := D) (ci := 9) (v := .int (nI (un + 1))) (ty := .int) (C := RX9) (T := TX9) (N := 9) hx hb hts inT_X9 tyX9 tyX9_ok nmX9 hown hK.1 hP hD hS 0 rfl rfl 5 (by decide) (hts _ k_199) (fun _ h9 => h9) rfl (by decide +kernel) rfl rfl (Nat.le_of_ble_eq_true rfl) dX9_add_38 (fun H locs hP hD hS => ?_)
    have hP : va_P D vwCl [(t 0, .inr (9, [.ref (t 1), .ref (t 2), .ref (t 3), .ref (t 4), .ref (t 5), .int (nI (un + 1)), .int (nI k1), .int (nI p1), .int rf])), (t 1, .inl (cI, 200, .inl f_6))] H := hP
    have hD : va_D A [(t 0, .inr (9, [.ref (t 1), .ref (t 2), .ref (t 3), .ref (t 4), .ref (t 5), .int (nI (un + 1)), .int (nI k1), .int (nI p1), .int rf])), (t 1, .inl (cI, 200, .inl f_6))] := hD
    refine lv_aload_n hx hb dX9_add_41 rfl (lv_at hl 0 rfl) ?_
    refine va_get (D := D) (ci := 9) (v := .int (nI (un + 1))) (C := RX9) (T := TX9) (N := 9) hx hb hts inT_X9 hown hK.1 hP 0 rfl rfl 5 (by decide) (hts _ k_199) (fun _ h9 => h9) rfl dX9_add_42 ?_
    refine lv_iconst (v := 1) hx hb dX9_add_45 (by decide) ?_
    refine lv_isub hx hb dX9_add_46 ?_
    refine lv_topv (y := nI ((un + 1) - 1)) (pk_sub (lf_X9_add_8 t un k1 p1 rf fs k0 o0 hun hst hk0 ho0 c_1 n_2 x_4 ex_4 x_5 ex_5 f_6 ef_6)) ?_
    exact W.iret (v := nI ((un + 1) - 1)) hx hb hr (fun tt9 ht hW => ⟨⟨(nI ((un + 1) - 1) : Int32), (((un + 1) : Nat), (f_6 : Nat → Int32)), rfl, (lf_X9_add_9 t un k1 p1 rf fs k0 o0 hun hst hk0 ho0 c_1 n_2 x_4 ex_4 x_5 ex_5 f_6 ef_6), ⟨by rw [ht]; exact hP, hD⟩⟩, hS.F ht⟩) hS.2.2 dX9_add_47 hlocks
  · have n_10 : 200 ≤ un := (lf_X9_add_11 t un k1 p1 rf fs k0 o0 hun hst hk0 ho0 c_1)
    refine lv_aload_n hx hb dX9_add_12 rfl (lv_at hl 0 rfl) ?_
    refine va_get (D := D) (ci := 9) (v := .int (nI un)) (C := RX9) (T := TX9) (N := 9) hx hb hts inT_X9 hown hK.1 hP 0 rfl rfl 5 (by decide) (hts _ k_199) (fun _ h9 => h9) rfl dX9_add_13 ?_
    exact W.iret (v := nI un) hx hb hr (fun tt9 ht hW => ⟨⟨(nI un : Int32), ((un : Nat), (fs : Nat → Int32)), rfl, (lf_X9_add_12 t un k1 p1 rf fs k0 o0 hun hst hk0 ho0 c_1 n_10), ⟨by rw [ht]; exact hP, hD⟩⟩, hS.F ht⟩) hS.2.2 dX9_add_16 hlocks

theorem lf_X9_landHere_2 (t : Nat → Nat) (un : Nat) (k1 : Nat) (p1 : Nat) (rf : Int32) (fs : Nat → Int32) (n1 : Int32) (hun : un ≤ 200) (hst : ∀ j, j < 200 → 0 ≤ fs j) (c_1 : n1 < 0) : (∀ j, j < 200 → 0 ≤ (fs : Nat → Int32) j) := by
  first
    | exact hst
    | (refine st_upd hst (by assumption) ?_; obtain ⟨q, hq, eq⟩ := pk_andE (fs kk) (m := 15) 4 (by decide); subst_vars; exact nn_or q (by omega) hq eq)
theorem lf_X9_landHere_4 (t : Nat → Nat) (un : Nat) (k1 : Nat) (p1 : Nat) (rf : Int32) (fs : Nat → Int32) (n1 : Int32) (hun : un ≤ 200) (hst : ∀ j, j < 200 → 0 ≤ fs j) (c_1 : ¬ n1 < 0) (c_3 : nI un ≤ n1) : (∀ j, j < 200 → 0 ≤ (fs : Nat → Int32) j) := by
  first
    | exact hst
    | (refine st_upd hst (by assumption) ?_; obtain ⟨q, hq, eq⟩ := pk_andE (fs kk) (m := 15) 4 (by decide); subst_vars; exact nn_or q (by omega) hq eq)
theorem lf_X9_landHere_6 (t : Nat → Nat) (un : Nat) (k1 : Nat) (p1 : Nat) (rf : Int32) (fs : Nat → Int32) (n1 : Int32) (hun : un ≤ 200) (hst : ∀ j, j < 200 → 0 ≤ fs j) (c_1 : ¬ n1 < 0) (c_3 : ¬ nI un ≤ n1) (kk : Nat) (hkk : kk < un) (ekk : n1 = nI kk) (x_5 : Int32) (ex_5 : x_5 = nI un <<< (4 &&& 31)) : kk < 200 := by
  omega
theorem lf_X9_landHere_10 (t : Nat → Nat) (un : Nat) (k1 : Nat) (p1 : Nat) (rf : Int32) (fs : Nat → Int32) (n1 : Int32) (hun : un ≤ 200) (hst : ∀ j, j < 200 → 0 ≤ fs j) (c_1 : ¬ n1 < 0) (c_3 : ¬ nI un ≤ n1) (kk : Nat) (hkk : kk < un) (ekk : n1 = nI kk) (x_5 : Int32) (ex_5 : x_5 = nI un <<< (4 &&& 31)) (x_7 : Int32) (ex_7 : x_7 = fs kk &&& 15) (x_8 : Int32) (ex_8 : x_8 = x_5 ||| x_7) : kk < 200 := by
  omega
theorem lf_X9_landHere_11 (t : Nat → Nat) (un : Nat) (k1 : Nat) (p1 : Nat) (rf : Int32) (fs : Nat → Int32) (n1 : Int32) (hun : un ≤ 200) (hst : ∀ j, j < 200 → 0 ≤ fs j) (c_1 : ¬ n1 < 0) (c_3 : ¬ nI un ≤ n1) (kk : Nat) (hkk : kk < un) (ekk : n1 = nI kk) (x_5 : Int32) (ex_5 : x_5 = nI un <<< (4 &&& 31)) (x_7 : Int32) (ex_7 : x_7 = fs kk &&& 15) (x_8 : Int32) (ex_8 : x_8 = x_5 ||| x_7) (f_9 : Nat → Int32) (ef_9 : f_9 = upd fs kk x_8) : (∀ j, j < 200 → 0 ≤ (f_9 : Nat → Int32) j) := by
  first
    | exact hst
    | (refine st_upd hst (by assumption) ?_; obtain ⟨q, hq, eq⟩ := pk_andE (fs kk) (m := 15) 4 (by decide); subst_vars; exact nn_or q (by omega) hq eq)
set_option maxHeartbeats 4000000 in
set_option maxRecDepth 100000 in
theorem c_X9_landHere (l : Launch) (D : va_G) (cI cB cZ cJ : ClassId) (tx : List (ClassId × FieldType)) (t : Nat → Nat) (un : Nat) (k1 : Nat) (p1 : Nat) (rf : Int32) (fs : Nat → Int32) (n1 : Int32) (hun : un ≤ 200) (hst : ∀ j, j < 200 → 0 ≤ fs j) : WrV l D cI cB cZ cJ tx yX9_landHere cX9_landHere 2 none 0 0 0 [.ref (t 0), .int n1] [(t 0, .inr (9, [.ref (t 1), .ref (t 2), .ref (t 3), .ref (t 4), .ref (t 5), .int (nI un), .int (nI k1), .int (nI p1), .int rf])), (t 1, .inl (cI, 200, .inl fs))] (fun (v : (Nat → Int32)) => (∀ j, j < 200 → 0 ≤ v j)) (fun v => [(t 0, .inr (9, [.ref (t 1), .ref (t 2), .ref (t 3), .ref (t 4), .ref (t 5), .int (nI un), .int (nI k1), .int (nI p1), .int rf])), (t 1, .inl (cI, 200, .inl v))]) := by
  refine wrv_of2 (by decide) (Nat.le_of_ble_eq_true rfl) ?_
  intro p e s m below meth c A ls H locs hC hK hP hD hA hS hl
  obtain ⟨hx, hb, hr, hml, hown, hts, hlocks, hin⟩ := hC
  have hown : s.vm.findClass RX9 = some m.cls := hown
  have hl : lv_has ls 2 [(0, .ref (t 0)), (1, .int n1)] := hl
  refine lv_iload_n hx hb dX9_landHere_0 rfl (lv_at hl 1 rfl) ?_
  refine lv_if_lt (tgt := 34) hx hb dX9_landHere_1 (by decide) (fun c_1 => ?_) (fun c_1 => ?_)
  · exact W.vret hx hb hr (fun tt9 ht hW => ⟨⟨((fs : Nat → Int32)), rfl, (lf_X9_landHere_2 t un k1 p1 rf fs n1 hun hst c_1), ⟨by rw [ht]; exact hP, hD⟩⟩, hS.F ht⟩) hS.2.2 dX9_landHere_34 hlocks
  · refine lv_iload_n hx hb dX9_landHere_4 rfl (lv_at hl 1 rfl) ?_
    refine lv_aload_n hx hb dX9_landHere_5 rfl (lv_at hl 0 rfl) ?_
    refine va_get (D := D) (ci := 9) (v := .int (nI un)) (C := RX9) (T := TX9) (N := 9) hx hb hts inT_X9 hown hK.1 hP 0 rfl rfl 5 (by decide) (hts _ k_199) (fun _ h9 => h9) rfl dX9_landHere_6 ?_
    refine lv_icmp_ge (tgt := 34) hx hb dX9_landHere_9 (by decide) (fun c_3 => ?_) (fun c_3 => ?_)
    · exact W.vret hx hb hr (fun tt9 ht hW => ⟨⟨((fs : Nat → Int32)), rfl, (lf_X9_landHere_4 t un k1 p1 rf fs n1 hun hst c_1 c_3), ⟨by rw [ht]; exact hP, hD⟩⟩, hS.F ht⟩) hS.2.2 dX9_landHere_34 hlocks
    · obtain ⟨kk, hkk, ekk⟩ := nat_of c_1 c_3
      subst ekk
      refine lv_aload_n hx hb dX9_landHere_12 rfl (lv_at hl 0 rfl) ?_
      refine va_get (D := D) (ci := 9) (v := .ref (t 1)) (C := RX9) (T := TX9) (N := 9) hx hb hts inT_X9 hown hK.1 hP 0 rfl rfl 0 (by decide) (hts _ k_194) (fun _ h9 => h9) rfl dX9_landHere_13 ?_
      refine lv_iload_n hx hb dX9_landHere_16 rfl (lv_at hl 1 rfl) ?_
      refine lv_aload_n hx hb dX9_landHere_17 rfl (lv_at hl 0 rfl) ?_
      refine va_get (D := D) (ci := 9) (v := .int (nI un)) (C := RX9) (T := TX9) (N := 9) hx hb hts inT_X9 hown hK.1 hP 0 rfl rfl 5 (by decide) (hts _ k_199) (fun _ h9 => h9) rfl dX9_landHere_18 ?_
      refine lv_iconst (v := 4) hx hb dX9_landHere_21 (by decide) ?_
      refine lv_ishl hx hb dX9_landHere_22 ?_
      refine lv_topi (fun x_5 ex_5 => ?_)
      refine lv_aload_n hx hb dX9_landHere_23 rfl (lv_at hl 0 rfl) ?_
      refine va_get (D := D) (ci := 9) (v := .ref (t 1)) (C := RX9) (T := TX9) (N := 9) hx hb hts inT_X9 hown hK.1 hP 0 rfl rfl 0 (by decide) (hts _ k_194) (fun _ h9 => h9) rfl dX9_landHere_24 ?_
      refine lv_iload_n hx hb dX9_landHere_27 rfl (lv_at hl 1 rfl) ?_
      refine lt_i (j := kk) hx hb hK hP 1 rfl (lf_X9_landHere_6 t un k1 p1 rf fs (nI kk) hun hst c_1 c_3 kk hkk rfl x_5 ex_5) (by decide) dX9_landHere_28 ?_
      refine lv_bipush (v := 15) hx hb dX9_landHere_29 (by decide) ?_
      refine lv_iand hx hb dX9_landHere_31 ?_
      refine lv_topi (fun x_7 ex_7 => ?_)
      refine lv_ior hx hb dX9_landHere_32 ?_
      refine lv_topi (fun x_8 ex_8 => ?_)
      refine su_i (j := kk) hx hb hK hP hD hS 1 rfl (lf_X9_landHere_10 t un k1 p1 rf fs (nI kk) hun hst c_1 c_3 kk hkk rfl x_5 ex_5 x_7 ex_7 x_8 ex_8) (by decide) dX9_landHere_33 (fun f_9 H locs ef_9 hP hD hS => ?_)
      have hP : va_P D vwCl [(t 0, .inr (9, [.ref (t 1), .ref (t 2), .ref (t 3), .ref (t 4), .ref (t 5), .int (nI un), .int (nI k1), .int (nI p1), .int rf])), (t 1, .inl (cI, 200, .inl f_9))] H := hP
      have hD : va_D A [(t 0, .inr (9, [.ref (t 1), .ref (t 2), .ref (t 3), .ref (t 4), .ref (t 5), .int (nI un), .int (nI k1), .int (nI p1), .int rf])), (t 1, .inl (cI, 200, .inl f_9))] := hD
      exact W.vret hx hb hr (fun tt9 ht hW => ⟨⟨((f_9 : Nat → Int32)), rfl, (lf_X9_landHere_11 t un k1 p1 rf fs (nI kk) hun hst c_1 c_3 kk hkk rfl x_5 ex_5 x_7 ex_7 x_8 ex_8 f_9 ef_9), ⟨by rw [ht]; exact hP, hD⟩⟩, hS.F ht⟩) hS.2.2 dX9_landHere_34 hlocks

theorem Met_ofWF {l : Launch} {y : MethodName} {ws ws' : List Cond} {rm : Room} {Pc : Array Value → State → Prop} {Qc : Array Value → State → Outcome → State → Prop} {mc ms : Nat} {free : Addr → Prop} {cc : ByteArray} {maxL : Nat} {ret : Option FieldType}
    (hy : plainFor y = true) (hw : ws = Cond.code y cc maxL ret :: ws')
    (body : ∀ p e s m args below meth c s₁, BodyLoose p l y (headSpec ws rm) cc maxL ret e s m args below meth c s₁ → c.maxLocals = maxL → Pc args s →
      W p l e (headSpec ws rm).room s m args below meth c s.heap [] 0 0 (MQ below Qc args s mc ms free) (entryFrame m args maxL)) : Met l y ws rm Pc Qc mc ms free := by
  refine MetFree.of_bodySF (code := cc) (maxLocals := maxL) (ret := ret) hy ?_ ?_
  · intro args s m h hn
    obtain ⟨meth, c, h1, h2, h3, h4, h5, h6, -, -⟩ := Cond.code_spec hn (atoms_spec (ws := ws) h _ (by rw [hw]; exact List.mem_cons_self))
    exact ⟨meth, c, h1, h2, h3, h4, h5, h6⟩
  · intro p e s m args below meth c s₁ B hml hP _
    have hh0 : s₁.heap = s.heap := by rw [B.state]; rfl
    obtain ⟨t, a1, o, b1, b2, b3⟩ := body p e s m args below meth c s₁ B hml hP s₁ hh0 (Stand.of_body B)
    exact ⟨t, o, a1, b1, b2, ⟨b3.1, b3.2⟩⟩
section OPEN3
variable {l : Launch} {D : va_G} {cI cB cZ cJ : ClassId} {tx : List (ClassId × FieldType)} {y : MethodName} {cc : ByteArray} {mL : Nat} {ret : Option FieldType} {F mc ms : Nat} {av : List Value} {ws : va_W}
theorem rdi_ofF {post : Int32 → Prop} (hy : plainFor y = true) (hn : (lg_sl av).length ≤ mL) (body : ∀ (p : Program) (e : Env) (s : State) (m : MethodId) (below : List Frame) (meth : Method) (c : Code) (A : Nat → Prop) (ls : Array Slot), CTX p s m meth c av.toArray y cc mL ret → KX D cI cB cZ cJ tx s → va_P D vwCl ws s.heap → va_D (fun _ => True) ws → (∀ q : Nat, s.heap.size ≤ q → A q) → va_S A s.heap s.heap [] → lv_has ls mL (lv_args 0 av) →
    W p l e (rmX F 0 0) s m av.toArray below meth c s.heap [] 0 0 (MQ below (va_Qi (fun r (_ : Unit) => post r) (fun _ _ => True) A) av.toArray s 0 0 A) (F0 m 0 ls [])) : RdI l D cI cB cZ cJ tx y cc mL ret F av ws post := by
  intro sz
  refine Met_ofWF (cc := cc) (maxL := mL) (ret := ret) hy rfl ?_
  intro p e s m args below meth c s₁ B hml hv
  obtain ⟨rfl, hsz, hP, hK, hD0⟩ := hv
  subst hsz
  have hl := lv_entry av (n := mL) hn
  rw [lg_entry_eq]
  exact body p e s m below meth c _ _ (ctx_of B hml) hK hP hD0 (fun q h => Or.inr h) va_S.rf hl
theorem rdi_ofF2 {post : Int32 → Prop} (hy : plainFor y = true) (hn : (lg_sl av).length ≤ mL) (body : ∀ (p : Program) (e : Env) (s : State) (m : MethodId) (below : List Frame) (meth : Method) (c : Code) (A : Nat → Prop) (ls : Array Slot) (H : Heap) (locs : List Loc), CTX p s m meth c av.toArray y cc mL ret → KX D cI cB cZ cJ tx s → va_P D vwCl ws H → va_D (fun _ => True) ws → (∀ q : Nat, s.heap.size ≤ q → A q) → va_S A s.heap H locs → lv_has ls mL (lv_args 0 av) →
    W p l e (rmX F 0 0) s m av.toArray below meth c H locs 0 0 (MQ below (va_Qi (fun r (_ : Unit) => post r) (fun _ _ => True) A) av.toArray s 0 0 A) (F0 m 0 ls [])) : RdI l D cI cB cZ cJ tx y cc mL ret F av ws post :=
  rdi_ofF hy hn (fun p e s m below meth c A ls hC hK hP hD hA hS hl => body p e s m below meth c A ls s.heap [] hC hK hP hD hA hS hl)
end OPEN3
theorem lf_J9_floorDiv_1 (n1 : Int32) (n2 : Int32) (hnz : ¬ n2 = 0) : ¬ n2 = 0 := by
  assumption
theorem lf_J9_floorDiv_5 (n1 : Int32) (n2 : Int32) (hnz : ¬ n2 = 0) (x_2 : Int32) (x_3 : Int32) (ex_3 : x_3 = n1 ^^^ n2) (c_4 : 0 ≤ x_3) : True := by
  first | trivial | assumption | decide
theorem lf_J9_floorDiv_8 (n1 : Int32) (n2 : Int32) (hnz : ¬ n2 = 0) (x_2 : Int32) (x_3 : Int32) (ex_3 : x_3 = n1 ^^^ n2) (c_4 : ¬ 0 ≤ x_3) (x_6 : Int32) (ex_6 : x_6 = x_2 * n2) (c_7 : x_6 = n1) : True := by
  first | trivial | assumption | decide
theorem lf_J9_floorDiv_10 (n1 : Int32) (n2 : Int32) (hnz : ¬ n2 = 0) (x_2 : Int32) (x_3 : Int32) (ex_3 : x_3 = n1 ^^^ n2) (c_4 : ¬ 0 ≤ x_3) (x_6 : Int32) (ex_6 : x_6 = x_2 * n2) (c_7 : ¬ x_6 = n1) (x_9 : Int32) (ex_9 : x_9 = x_2 - 1) : True := by
  first | trivial | assumption | decide
set_option maxHeartbeats 4000000 in
set_option maxRecDepth 100000 in
theorem c_J9_floorDiv (l : Launch) (D : va_G) (cI cB cZ cJ : ClassId) (tx : List (ClassId × FieldType)) (n1 : Int32) (n2 : Int32) (hnz : ¬ n2 = 0) : RdI l D cI cB cZ cJ tx yJ9_floorDiv_7cf53 cJ9_floorDiv_7cf53 3 (some .int) 0 [.int n1, .int n2] [] (fun r => True) := by
  refine rdi_ofF2 (by decide +kernel) (Nat.le_of_ble_eq_true rfl) ?_
  intro p e s m below meth c A ls H locs hC hK hP hD hA hS hl
  obtain ⟨hx, hb, hr, hml, hown, hts, hlocks, hin⟩ := hC
  have hown : s.vm.findClass RJ9 = some m.cls := hown
  have hl : lv_has ls 3 [(0, .int n1), (1, .int n2)] := hl
  refine lv_iload_n hx hb dJ9_floorDiv_7cf53_0 rfl (lv_at hl 0 rfl) ?_
  refine lv_iload_n hx hb dJ9_floorDiv_7cf53_1 rfl (lv_at hl 1 rfl) ?_
  refine lv_idiv hx hb dJ9_floorDiv_7cf53_2 (lf_J9_floorDiv_1 n1 n2 hnz) ?_
  refine lv_topi (fun x_2 _ => ?_)
  refine lv_istore_n (lv' := [(2, .int x_2), (0, .int n1), (1, .int n2)]) hx hb dJ9_floorDiv_7cf53_3 rfl hl (by decide) rfl (fun ls hl => ?_)
  refine lv_iload_n hx hb dJ9_floorDiv_7cf53_4 rfl (lv_at hl 1 rfl) ?_
  refine lv_iload_n hx hb dJ9_floorDiv_7cf53_5 rfl (lv_at hl 2 rfl) ?_
  refine lv_ixor hx hb dJ9_floorDiv_7cf53_6 ?_
  refine lv_topi (fun x_3 ex_3 => ?_)
  refine lv_if_ge (tgt := 21) hx hb dJ9_floorDiv_7cf53_7 (by decide) (fun c_4 => ?_) (fun c_4 => ?_)
  · refine lv_iload_n hx hb dJ9_floorDiv_7cf53_21 rfl (lv_at hl 0 rfl) ?_
    exact W.iret (v := x_2) hx hb hr (fun tt9 ht hW => ⟨⟨(x_2 : Int32), (), rfl, (lf_J9_floorDiv_5 n1 n2 hnz x_2 x_3 ex_3 c_4), trivial⟩, hS.F ht⟩) hS.2.2 dJ9_floorDiv_7cf53_22 hlocks
  · refine lv_iload_n hx hb dJ9_floorDiv_7cf53_10 rfl (lv_at hl 0 rfl) ?_
    refine lv_iload_n hx hb dJ9_floorDiv_7cf53_11 rfl (lv_at hl 2 rfl) ?_
    refine lv_imul hx hb dJ9_floorDiv_7cf53_12 ?_
    refine lv_topi (fun x_6 ex_6 => ?_)
    refine lv_iload_n hx hb dJ9_floorDiv_7cf53_13 rfl (lv_at hl 1 rfl) ?_
    refine lv_icmp_eq (tgt := 21) hx hb dJ9_floorDiv_7cf53_14 (by decide) (fun c_7 => ?_) (fun c_7 => ?_)
    · refine lv_iload_n hx hb dJ9_floorDiv_7cf53_21 rfl (lv_at hl 0 rfl) ?_
      exact W.iret (v := x_2) hx hb hr (fun tt9 ht hW => ⟨⟨(x_2 : Int32), (), rfl, (lf_J9_floorDiv_8 n1 n2 hnz x_2 x_3 ex_3 c_4 x_6 ex_6 c_7), trivial⟩, hS.F ht⟩) hS.2.2 dJ9_floorDiv_7cf53_22 hlocks
    · refine lv_iload_n hx hb dJ9_floorDiv_7cf53_17 rfl (lv_at hl 0 rfl) ?_
      refine lv_iconst (v := 1) hx hb dJ9_floorDiv_7cf53_18 (by decide) ?_
      refine lv_isub hx hb dJ9_floorDiv_7cf53_19 ?_
      refine lv_topi (fun x_9 ex_9 => ?_)
      exact W.iret (v := x_9) hx hb hr (fun tt9 ht hW => ⟨⟨(x_9 : Int32), (), rfl, (lf_J9_floorDiv_10 n1 n2 hnz x_2 x_3 ex_3 c_4 x_6 ex_6 c_7 x_9 ex_9), trivial⟩, hS.F ht⟩) hS.2.2 dJ9_floorDiv_7cf53_20 hlocks

theorem lf_X0_lowerMedian_d3_3 (a : Nat → Nat) (d3 : Nat → Int32) (x1 : Nat) (hx1 : x1 ≤ 384) (j1 : Nat) (w1 : Int32) (w2 : Int32) (k11 : Nat) (hj11 : j1 ≤ 15) (hk11 : 15 < j1 + (k11 + 1)) (c_1 : 15 ≤ nI j1) : 15 ≤ j1 := by
  exact (nI_leI (a := 15) (b := j1) (by omega) (by omega)).mp c_1
theorem lf_X0_lowerMedian_d3_5 (a : Nat → Nat) (d3 : Nat → Int32) (x1 : Nat) (hx1 : x1 ≤ 384) (j1 : Nat) (w1 : Int32) (w2 : Int32) (k11 : Nat) (hj11 : j1 ≤ 15) (hk11 : 15 < j1 + (k11 + 1)) (c_1 : ¬ 15 ≤ nI j1) : j1 < 15 := by
  exact Nat.lt_of_not_le (fun q => c_1 ((nI_leI (a := 15) (b := j1) (by omega) (by omega)).mpr q))
theorem lf_X0_lowerMedian_d3_8 (a : Nat → Nat) (d3 : Nat → Int32) (x1 : Nat) (hx1 : x1 ≤ 384) (j1 : Nat) (w1 : Int32) (w2 : Int32) (k11 : Nat) (hj11 : j1 ≤ 15) (hk11 : 15 < j1 + (k11 + 1)) (c_1 : ¬ 15 ≤ nI j1) (n_4 : j1 < 15) (c_6 : ¬ w2 ≤ w1) (x_7 : Int32) (ex_7 : x_7 = w1 + w2) : ¬ (2 : Int32) = 0 := by
  first | assumption | omega | decide
theorem lf_X0_lowerMedian_d3_12 (a : Nat → Nat) (d3 : Nat → Int32) (x1 : Nat) (hx1 : x1 ≤ 384) (j1 : Nat) (w1 : Int32) (w2 : Int32) (k11 : Nat) (hj11 : j1 ≤ 15) (hk11 : 15 < j1 + (k11 + 1)) (c_1 : ¬ 15 ≤ nI j1) (n_4 : j1 < 15) (c_6 : ¬ w2 ≤ w1) (x_7 : Int32) (ex_7 : x_7 = w1 + w2) (r_9 : Int32) (j2 : Nat) (w3 : Int32) (k38 : Nat) (hj38 : j2 ≤ x1) (hk38 : x1 < j2 + (k38 + 1)) (c_10 : nI x1 ≤ nI j2) : x1 ≤ j2 := by
  exact (nI_leI (a := x1) (b := j2) (by omega) (by omega)).mp c_10
theorem lf_X0_lowerMedian_d3_17 (a : Nat → Nat) (d3 : Nat → Int32) (x1 : Nat) (hx1 : x1 ≤ 384) (j1 : Nat) (w1 : Int32) (w2 : Int32) (k11 : Nat) (hj11 : j1 ≤ 15) (hk11 : 15 < j1 + (k11 + 1)) (c_1 : ¬ 15 ≤ nI j1) (n_4 : j1 < 15) (c_6 : ¬ w2 ≤ w1) (x_7 : Int32) (ex_7 : x_7 = w1 + w2) (r_9 : Int32) (j2 : Nat) (w3 : Int32) (k38 : Nat) (hj38 : j2 ≤ x1) (hk38 : x1 < j2 + (k38 + 1)) (c_10 : ¬ nI x1 ≤ nI j2) : j2 < x1 := by
  exact Nat.lt_of_not_le (fun q => c_10 ((nI_leI (a := x1) (b := j2) (by omega) (by omega)).mpr q))
theorem lf_X0_lowerMedian_d3_18 (a : Nat → Nat) (d3 : Nat → Int32) (x1 : Nat) (hx1 : x1 ≤ 384) (j1 : Nat) (w1 : Int32) (w2 : Int32) (k11 : Nat) (hj11 : j1 ≤ 15) (hk11 : 15 < j1 + (k11 + 1)) (c_1 : ¬ 15 ≤ nI j1) (n_4 : j1 < 15) (c_6 : ¬ w2 ≤ w1) (x_7 : Int32) (ex_7 : x_7 = w1 + w2) (r_9 : Int32) (j2 : Nat) (w3 : Int32) (k38 : Nat) (hj38 : j2 ≤ x1) (hk38 : x1 < j2 + (k38 + 1)) (c_10 : ¬ nI x1 ≤ nI j2) (n_16 : j2 < x1) : vp_in (nI j2) 384 := by
  first | exact vp_in_nI (by omega) (by decide) | (unfold vp_in; decide)
set_option maxHeartbeats 4000000 in
set_option maxRecDepth 100000 in
theorem c_X0_lowerMedian_d3 (l : Launch) (D : va_G) (cI cB cZ cJ : ClassId) (tx : List (ClassId × FieldType)) (a : Nat → Nat) (d3 : Nat → Int32) (x1 : Nat) (hx1 : x1 ≤ 384) : RdI l D cI cB cZ cJ tx yX0_lowerMedian cX0_lowerMedian 8 (some .int) 1 [.ref (a 28), .int (nI x1)] [(a 28, .inl (cI, 384, .inl d3))] (fun r => True) := by
  refine rdi_of2 (by decide) (Nat.le_of_ble_eq_true rfl) ?_
  intro p e s m below meth c A ls H locs hC hK hP hD hA hS hl
  obtain ⟨hx, hb, hr, hml, hown, hts, hlocks, hin⟩ := hC
  have hown : s.vm.findClass RX0 = some m.cls := hown
  have hl : lv_has ls 8 [(0, .ref (a 28)), (1, .int (nI x1))] := hl
  refine lv_sipush (v := (-12000)) hx hb dX0_lowerMedian_0 (by decide) ?_
  refine lv_istore_n (lv' := [(2, .int (-12000)), (0, .ref (a 28)), (1, .int (nI x1))]) hx hb dX0_lowerMedian_3 rfl hl (by decide) rfl (fun ls hl => ?_)
  refine lv_sipush (v := 12000) hx hb dX0_lowerMedian_4 (by decide) ?_
  refine lv_istore_n (lv' := [(3, .int 12000), (2, .int (-12000)), (0, .ref (a 28)), (1, .int (nI x1))]) hx hb dX0_lowerMedian_7 rfl hl (by decide) rfl (fun ls hl => ?_)
  refine lv_iconst (v := 0) hx hb dX0_lowerMedian_8 (by decide) ?_
  refine lv_istore (lv' := [(4, .int 0), (3, .int 12000), (2, .int (-12000)), (0, .ref (a 28)), (1, .int (nI x1))]) hx hb dX0_lowerMedian_9 hl (by decide) rfl (fun ls hl => ?_)
  have lp11 : ∀ (k11 : Nat) (j1 : Nat) (w1 : Int32) (w2 : Int32) (H : Heap) (locs : List Loc) (ls : Array Slot), j1 ≤ 15 → 15 < j1 + k11 → va_P D vwCl [(a 28, .inl (cI, 384, .inl d3))] H → va_S A s.heap H locs → lv_has ls 8 [(4, .int (nI j1)), (3, .int w2), (2, .int w1), (0, .ref (a 28)), (1, .int (nI x1))] → W p l e (rmX 1 0 0) s m ([.ref (a 28), .int (nI x1)] : List Value).toArray below meth c H locs 0 0 (MQ below (va_Qi (fun r (_ : Unit) => (fun r => True) r) (fun _ _ => True) A) ([.ref (a 28), .int (nI x1)] : List Value).toArray s 0 0 A) (F0 m 11 ls []) := by
    intro k11
    induction k11 with
    | zero =>
      intro j1 w1 w2 H locs ls hj11 hk11  hP hS hl
      exact absurd hk11 (by omega)
    | succ k11 ih11 =>
      intro j1 w1 w2 H locs ls hj11 hk11  hP hS hl
      refine lv_iload hx hb dX0_lowerMedian_11 (lv_at hl 0 rfl) ?_
      refine lv_bipush (v := 15) hx hb dX0_lowerMedian_13 (by decide) ?_
      refine lv_icmp_ge (tgt := 94) hx hb dX0_lowerMedian_15 (by decide) (fun c_1 => ?_) (fun c_1 => ?_)
      · have n_2 : 15 ≤ j1 := (lf_X0_lowerMedian_d3_3 a d3 x1 hx1 j1 w1 w2 k11 hj11 hk11 c_1)
        refine lv_iload_n hx hb dX0_lowerMedian_94 rfl (lv_at hl 2 rfl) ?_
        exact W.iret (v := w1) hx hb hr (fun tt9 ht hW => ⟨⟨(w1 : Int32), (), rfl, trivial, trivial⟩, hS.F ht⟩) hS.2.2 dX0_lowerMedian_95 hlocks
      · have n_4 : j1 < 15 := (lf_X0_lowerMedian_d3_5 a d3 x1 hx1 j1 w1 w2 k11 hj11 hk11 c_1)
        refine lv_iload_n hx hb dX0_lowerMedian_18 rfl (lv_at hl 2 rfl) ?_
        refine lv_iload_n hx hb dX0_lowerMedian_19 rfl (lv_at hl 1 rfl) ?_
        refine lv_icmp_ge (tgt := 94) hx hb dX0_lowerMedian_20 (by decide) (fun c_6 => ?_) (fun c_6 => ?_)
        · refine lv_iload_n hx hb dX0_lowerMedian_94 rfl (lv_at hl 2 rfl) ?_
          exact W.iret (v := w1) hx hb hr (fun tt9 ht hW => ⟨⟨(w1 : Int32), (), rfl, trivial, trivial⟩, hS.F ht⟩) hS.2.2 dX0_lowerMedian_95 hlocks
        · refine lv_iload_n hx hb dX0_lowerMedian_23 rfl (lv_at hl 2 rfl) ?_
          refine lv_iload_n hx hb dX0_lowerMedian_24 rfl (lv_at hl 1 rfl) ?_
          refine lv_iadd hx hb dX0_lowerMedian_25 ?_
          refine lv_topi (fun x_7 ex_7 => ?_)
          refine lv_iconst (v := 2) hx hb dX0_lowerMedian_26 (by decide) ?_
          refine eRi (va_runS (As := [.int x_7, .int 2]) (rest := []) ⟨hx, hb, hml, hown, hts⟩ (c_J9_floorDiv l D cI cB cZ cJ tx x_7 2 (lf_X0_lowerMedian_d3_8 a d3 x1 hx1 j1 w1 w2 k11 hj11 hk11 c_1 n_4 c_6 x_7 ex_7) H.size) (zS hts k_963 v_J9_floorDiv_7cf53 ⟨Nat.le_of_ble_eq_true rfl, Nat.le_of_ble_eq_true rfl⟩) (px0 hK) rfl rfl hl.1 rfl (lv_room (Nat.le_of_ble_eq_true rfl)) dX0_lowerMedian_27 ⟨Nat.le_of_ble_eq_true rfl, Nat.le_of_ble_eq_true rfl⟩) hP hS hA (fun r_9 H locs wr_9 hP hS => ?_)
          refine lv_istore (lv' := [(5, .int r_9), (4, .int (nI j1)), (3, .int w2), (2, .int w1), (0, .ref (a 28)), (1, .int (nI x1))]) hx hb dX0_lowerMedian_30 hl (by decide) rfl (fun ls hl => ?_)
          refine lv_iconst (v := 0) hx hb dX0_lowerMedian_32 (by decide) ?_
          refine lv_istore (lv' := [(6, .int 0), (5, .int r_9), (4, .int (nI j1)), (3, .int w2), (2, .int w1), (0, .ref (a 28)), (1, .int (nI x1))]) hx hb dX0_lowerMedian_33 hl (by decide) rfl (fun ls hl => ?_)
          refine lv_iconst (v := 0) hx hb dX0_lowerMedian_35 (by decide) ?_
          refine lv_istore (lv' := [(7, .int 0), (6, .int 0), (5, .int r_9), (4, .int (nI j1)), (3, .int w2), (2, .int w1), (0, .ref (a 28)), (1, .int (nI x1))]) hx hb dX0_lowerMedian_36 hl (by decide) rfl (fun ls hl => ?_)
          have lp38 : ∀ (k38 : Nat) (j2 : Nat) (w3 : Int32) (H : Heap) (locs : List Loc) (ls : Array Slot), j2 ≤ x1 → x1 < j2 + k38 → va_P D vwCl [(a 28, .inl (cI, 384, .inl d3))] H → va_S A s.heap H locs → lv_has ls 8 [(7, .int (nI j2)), (6, .int w3), (5, .int r_9), (4, .int (nI j1)), (3, .int w2), (2, .int w1), (0, .ref (a 28)), (1, .int (nI x1))] → W p l e (rmX 1 0 0) s m ([.ref (a 28), .int (nI x1)] : List Value).toArray below meth c H locs 0 0 (MQ below (va_Qi (fun r (_ : Unit) => (fun r => True) r) (fun _ _ => True) A) ([.ref (a 28), .int (nI x1)] : List Value).toArray s 0 0 A) (F0 m 38 ls []) := by
            intro k38
            induction k38 with
            | zero =>
              intro j2 w3 H locs ls hj38 hk38  hP hS hl
              exact absurd hk38 (by omega)
            | succ k38 ih38 =>
              intro j2 w3 H locs ls hj38 hk38  hP hS hl
              refine lv_iload hx hb dX0_lowerMedian_38 (lv_at hl 0 rfl) ?_
              refine lv_iload_n hx hb dX0_lowerMedian_40 rfl (lv_at hl 7 rfl) ?_
              refine lv_icmp_ge (tgt := 69) hx hb dX0_lowerMedian_41 (by decide) (fun c_10 => ?_) (fun c_10 => ?_)
              · have n_11 : x1 ≤ j2 := (lf_X0_lowerMedian_d3_12 a d3 x1 hx1 j1 w1 w2 k11 hj11 hk11 c_1 n_4 c_6 x_7 ex_7 r_9 j2 w3 k38 hj38 hk38 c_10)
                refine lv_iconst (v := 2) hx hb dX0_lowerMedian_69 (by decide) ?_
                refine lv_iload hx hb dX0_lowerMedian_70 (lv_at hl 1 rfl) ?_
                refine lv_imul hx hb dX0_lowerMedian_72 ?_
                refine lv_topi (fun x_13 ex_13 => ?_)
                refine lv_iload_n hx hb dX0_lowerMedian_73 rfl (lv_at hl 7 rfl) ?_
                refine lv_icmp_lt (tgt := 83) hx hb dX0_lowerMedian_74 (by decide) (fun c_14 => ?_) (fun c_14 => ?_)
                · refine lv_iload hx hb dX0_lowerMedian_83 (lv_at hl 2 rfl) ?_
                  refine lv_iconst (v := 1) hx hb dX0_lowerMedian_85 (by decide) ?_
                  refine lv_iadd hx hb dX0_lowerMedian_86 ?_
                  refine lv_topi (fun x_15 ex_15 => ?_)
                  refine lv_istore_n (lv' := [(2, .int x_15), (7, .int (nI j2)), (6, .int w3), (5, .int r_9), (4, .int (nI j1)), (3, .int w2), (0, .ref (a 28)), (1, .int (nI x1))]) hx hb dX0_lowerMedian_87 rfl hl (by decide) rfl (fun ls hl => ?_)
                  refine lv_iinc (v := nI (j1 + 1)) (lv' := [(4, .int (nI (j1 + 1))), (2, .int x_15), (7, .int (nI j2)), (6, .int w3), (5, .int r_9), (3, .int w2), (0, .ref (a 28)), (1, .int (nI x1))]) hx hb dX0_lowerMedian_88 hl (k := 4) rfl (nI_1 j1) (by decide) rfl (fun ls hl => ?_)
                  refine lv_goto (tgt := 11) hx hb dX0_lowerMedian_91 (by decide) ?_
                  exact ih11 (j1 + 1) x_15 w2 H locs ls (by omega) (by omega)  (hP.sub [0] rfl)  hS (lv_sub hl [0, 5, 1, 6, 7] rfl)
                · refine lv_iload hx hb dX0_lowerMedian_77 (lv_at hl 2 rfl) ?_
                  refine lv_istore_n (lv' := [(3, .int r_9), (7, .int (nI j2)), (6, .int w3), (5, .int r_9), (4, .int (nI j1)), (2, .int w1), (0, .ref (a 28)), (1, .int (nI x1))]) hx hb dX0_lowerMedian_79 rfl hl (by decide) rfl (fun ls hl => ?_)
                  refine lv_goto (tgt := 88) hx hb dX0_lowerMedian_80 (by decide) ?_
                  refine lv_iinc (v := nI (j1 + 1)) (lv' := [(4, .int (nI (j1 + 1))), (3, .int r_9), (7, .int (nI j2)), (6, .int w3), (5, .int r_9), (2, .int w1), (0, .ref (a 28)), (1, .int (nI x1))]) hx hb dX0_lowerMedian_88 hl (k := 4) rfl (nI_1 j1) (by decide) rfl (fun ls hl => ?_)
                  refine lv_goto (tgt := 11) hx hb dX0_lowerMedian_91 (by decide) ?_
                  exact ih11 (j1 + 1) w1 r_9 H locs ls (by omega) (by omega)  (hP.sub [0] rfl)  hS (lv_sub hl [0, 1, 5, 6, 7] rfl)
              · have n_16 : j2 < x1 := (lf_X0_lowerMedian_d3_17 a d3 x1 hx1 j1 w1 w2 k11 hj11 hk11 c_1 n_4 c_6 x_7 ex_7 r_9 j2 w3 k38 hj38 hk38 c_10)
                refine lv_iload hx hb dX0_lowerMedian_44 (lv_at hl 1 rfl) ?_
                refine lv_aload_n hx hb dX0_lowerMedian_46 rfl (lv_at hl 6 rfl) ?_
                refine lv_iload hx hb dX0_lowerMedian_47 (lv_at hl 0 rfl) ?_
                refine ld_i hx hb hK hP 0 rfl (lf_X0_lowerMedian_d3_18 a d3 x1 hx1 j1 w1 w2 k11 hj11 hk11 c_1 n_4 c_6 x_7 ex_7 r_9 j2 w3 k38 hj38 hk38 c_10 n_16) dX0_lowerMedian_49 (fun x_19 => ?_)
                refine lv_iload hx hb dX0_lowerMedian_50 (lv_at hl 2 rfl) ?_
                refine lv_icmp_gt (tgt := 59) hx hb dX0_lowerMedian_52 (by decide) (fun c_20 => ?_) (fun c_20 => ?_)
                · refine lv_iconst (v := 0) hx hb dX0_lowerMedian_59 (by decide) ?_
                  refine lv_iadd hx hb dX0_lowerMedian_60 ?_
                  refine lv_topi (fun x_21 ex_21 => ?_)
                  refine lv_istore (lv' := [(6, .int x_21), (7, .int (nI j2)), (5, .int r_9), (4, .int (nI j1)), (3, .int w2), (2, .int w1), (0, .ref (a 28)), (1, .int (nI x1))]) hx hb dX0_lowerMedian_61 hl (by decide) rfl (fun ls hl => ?_)
                  refine lv_iinc (v := nI (j2 + 1)) (lv' := [(7, .int (nI (j2 + 1))), (6, .int x_21), (5, .int r_9), (4, .int (nI j1)), (3, .int w2), (2, .int w1), (0, .ref (a 28)), (1, .int (nI x1))]) hx hb dX0_lowerMedian_63 hl (k := 1) rfl (nI_1 j2) (by decide) rfl (fun ls hl => ?_)
                  refine lv_goto (tgt := 38) hx hb dX0_lowerMedian_66 (by decide) ?_
                  exact ih38 (j2 + 1) x_21 H locs ls (by omega) (by omega)  (hP.sub [0] rfl)  hS (lv_sub hl [0, 1, 2, 3, 4, 5, 6, 7] rfl)
                · refine lv_iconst (v := 1) hx hb dX0_lowerMedian_55 (by decide) ?_
                  refine lv_goto (tgt := 60) hx hb dX0_lowerMedian_56 (by decide) ?_
                  refine lv_iadd hx hb dX0_lowerMedian_60 ?_
                  refine lv_topi (fun x_22 ex_22 => ?_)
                  refine lv_istore (lv' := [(6, .int x_22), (7, .int (nI j2)), (5, .int r_9), (4, .int (nI j1)), (3, .int w2), (2, .int w1), (0, .ref (a 28)), (1, .int (nI x1))]) hx hb dX0_lowerMedian_61 hl (by decide) rfl (fun ls hl => ?_)
                  refine lv_iinc (v := nI (j2 + 1)) (lv' := [(7, .int (nI (j2 + 1))), (6, .int x_22), (5, .int r_9), (4, .int (nI j1)), (3, .int w2), (2, .int w1), (0, .ref (a 28)), (1, .int (nI x1))]) hx hb dX0_lowerMedian_63 hl (k := 1) rfl (nI_1 j2) (by decide) rfl (fun ls hl => ?_)
                  refine lv_goto (tgt := 38) hx hb dX0_lowerMedian_66 (by decide) ?_
                  exact ih38 (j2 + 1) x_22 H locs ls (by omega) (by omega)  (hP.sub [0] rfl)  hS (lv_sub hl [0, 1, 2, 3, 4, 5, 6, 7] rfl)
          exact lp38 (x1 + 1) 0 0 H locs ls (by omega) (by omega)  (hP.sub [0] rfl)  hS (lv_sub hl [0, 1, 2, 3, 4, 5, 6, 7] rfl)
  exact lp11 (15 + 1) 0 (-12000) 12000 H locs ls (by omega) (by omega)  (hP.sub [0] rfl)  hS (lv_sub hl [0, 1, 2, 3, 4] rfl)

theorem lf_X0_lowerMedian_d4_3 (a : Nat → Nat) (d4 : Nat → Int32) (x1 : Nat) (hx1 : x1 ≤ 384) (j1 : Nat) (w1 : Int32) (w2 : Int32) (k11 : Nat) (hj11 : j1 ≤ 15) (hk11 : 15 < j1 + (k11 + 1)) (c_1 : 15 ≤ nI j1) : 15 ≤ j1 := by
  exact (nI_leI (a := 15) (b := j1) (by omega) (by omega)).mp c_1
theorem lf_X0_lowerMedian_d4_5 (a : Nat → Nat) (d4 : Nat → Int32) (x1 : Nat) (hx1 : x1 ≤ 384) (j1 : Nat) (w1 : Int32) (w2 : Int32) (k11 : Nat) (hj11 : j1 ≤ 15) (hk11 : 15 < j1 + (k11 + 1)) (c_1 : ¬ 15 ≤ nI j1) : j1 < 15 := by
  exact Nat.lt_of_not_le (fun q => c_1 ((nI_leI (a := 15) (b := j1) (by omega) (by omega)).mpr q))
theorem lf_X0_lowerMedian_d4_8 (a : Nat → Nat) (d4 : Nat → Int32) (x1 : Nat) (hx1 : x1 ≤ 384) (j1 : Nat) (w1 : Int32) (w2 : Int32) (k11 : Nat) (hj11 : j1 ≤ 15) (hk11 : 15 < j1 + (k11 + 1)) (c_1 : ¬ 15 ≤ nI j1) (n_4 : j1 < 15) (c_6 : ¬ w2 ≤ w1) (x_7 : Int32) (ex_7 : x_7 = w1 + w2) : ¬ (2 : Int32) = 0 := by
  first | assumption | omega | decide
theorem lf_X0_lowerMedian_d4_12 (a : Nat → Nat) (d4 : Nat → Int32) (x1 : Nat) (hx1 : x1 ≤ 384) (j1 : Nat) (w1 : Int32) (w2 : Int32) (k11 : Nat) (hj11 : j1 ≤ 15) (hk11 : 15 < j1 + (k11 + 1)) (c_1 : ¬ 15 ≤ nI j1) (n_4 : j1 < 15) (c_6 : ¬ w2 ≤ w1) (x_7 : Int32) (ex_7 : x_7 = w1 + w2) (r_9 : Int32) (j2 : Nat) (w3 : Int32) (k38 : Nat) (hj38 : j2 ≤ x1) (hk38 : x1 < j2 + (k38 + 1)) (c_10 : nI x1 ≤ nI j2) : x1 ≤ j2 := by
  exact (nI_leI (a := x1) (b := j2) (by omega) (by omega)).mp c_10
theorem lf_X0_lowerMedian_d4_17 (a : Nat → Nat) (d4 : Nat → Int32) (x1 : Nat) (hx1 : x1 ≤ 384) (j1 : Nat) (w1 : Int32) (w2 : Int32) (k11 : Nat) (hj11 : j1 ≤ 15) (hk11 : 15 < j1 + (k11 + 1)) (c_1 : ¬ 15 ≤ nI j1) (n_4 : j1 < 15) (c_6 : ¬ w2 ≤ w1) (x_7 : Int32) (ex_7 : x_7 = w1 + w2) (r_9 : Int32) (j2 : Nat) (w3 : Int32) (k38 : Nat) (hj38 : j2 ≤ x1) (hk38 : x1 < j2 + (k38 + 1)) (c_10 : ¬ nI x1 ≤ nI j2) : j2 < x1 := by
  exact Nat.lt_of_not_le (fun q => c_10 ((nI_leI (a := x1) (b := j2) (by omega) (by omega)).mpr q))
theorem lf_X0_lowerMedian_d4_18 (a : Nat → Nat) (d4 : Nat → Int32) (x1 : Nat) (hx1 : x1 ≤ 384) (j1 : Nat) (w1 : Int32) (w2 : Int32) (k11 : Nat) (hj11 : j1 ≤ 15) (hk11 : 15 < j1 + (k11 + 1)) (c_1 : ¬ 15 ≤ nI j1) (n_4 : j1 < 15) (c_6 : ¬ w2 ≤ w1) (x_7 : Int32) (ex_7 : x_7 = w1 + w2) (r_9 : Int32) (j2 : Nat) (w3 : Int32) (k38 : Nat) (hj38 : j2 ≤ x1) (hk38 : x1 < j2 + (k38 + 1)) (c_10 : ¬ nI x1 ≤ nI j2) (n_16 : j2 < x1) : vp_in (nI j2) 384 := by
  first | exact vp_in_nI (by omega) (by decide) | (unfold vp_in; decide)
set_option maxHeartbeats 4000000 in
set_option maxRecDepth 100000 in
theorem c_X0_lowerMedian_d4 (l : Launch) (D : va_G) (cI cB cZ cJ : ClassId) (tx : List (ClassId × FieldType)) (a : Nat → Nat) (d4 : Nat → Int32) (x1 : Nat) (hx1 : x1 ≤ 384) : RdI l D cI cB cZ cJ tx yX0_lowerMedian cX0_lowerMedian 8 (some .int) 1 [.ref (a 29), .int (nI x1)] [(a 29, .inl (cI, 384, .inl d4))] (fun r => True) := by
  refine rdi_of2 (by decide) (Nat.le_of_ble_eq_true rfl) ?_
  intro p e s m below meth c A ls H locs hC hK hP hD hA hS hl
  obtain ⟨hx, hb, hr, hml, hown, hts, hlocks, hin⟩ := hC
  have hown : s.vm.findClass RX0 = some m.cls := hown
  have hl : lv_has ls 8 [(0, .ref (a 29)), (1, .int (nI x1))] := hl
  refine lv_sipush (v := (-12000)) hx hb dX0_lowerMedian_0 (by decide) ?_
  refine lv_istore_n (lv' := [(2, .int (-12000)), (0, .ref (a 29)), (1, .int (nI x1))]) hx hb dX0_lowerMedian_3 rfl hl (by decide) rfl (fun ls hl => ?_)
  refine lv_sipush (v := 12000) hx hb dX0_lowerMedian_4 (by decide) ?_
  refine lv_istore_n (lv' := [(3, .int 12000), (2, .int (-12000)), (0, .ref (a 29)), (1, .int (nI x1))]) hx hb dX0_lowerMedian_7 rfl hl (by decide) rfl (fun ls hl => ?_)
  refine lv_iconst (v := 0) hx hb dX0_lowerMedian_8 (by decide) ?_
  refine lv_istore (lv' := [(4, .int 0), (3, .int 12000), (2, .int (-12000)), (0, .ref (a 29)), (1, .int (nI x1))]) hx hb dX0_lowerMedian_9 hl (by decide) rfl (fun ls hl => ?_)
  have lp11 : ∀ (k11 : Nat) (j1 : Nat) (w1 : Int32) (w2 : Int32) (H : Heap) (locs : List Loc) (ls : Array Slot), j1 ≤ 15 → 15 < j1 + k11 → va_P D vwCl [(a 29, .inl (cI, 384, .inl d4))] H → va_S A s.heap H locs → lv_has ls 8 [(4, .int (nI j1)), (3, .int w2), (2, .int w1), (0, .ref (a 29)), (1, .int (nI x1))] → W p l e (rmX 1 0 0) s m ([.ref (a 29), .int (nI x1)] : List Value).toArray below meth c H locs 0 0 (MQ below (va_Qi (fun r (_ : Unit) => (fun r => True) r) (fun _ _ => True) A) ([.ref (a 29), .int (nI x1)] : List Value).toArray s 0 0 A) (F0 m 11 ls []) := by
    intro k11
    induction k11 with
    | zero =>
      intro j1 w1 w2 H locs ls hj11 hk11  hP hS hl
      exact absurd hk11 (by omega)
    | succ k11 ih11 =>
      intro j1 w1 w2 H locs ls hj11 hk11  hP hS hl
      refine lv_iload hx hb dX0_lowerMedian_11 (lv_at hl 0 rfl) ?_
      refine lv_bipush (v := 15) hx hb dX0_lowerMedian_13 (by decide) ?_
      refine lv_icmp_ge (tgt := 94) hx hb dX0_lowerMedian_15 (by decide) (fun c_1 => ?_) (fun c_1 => ?_)
      · have n_2 : 15 ≤ j1 := (lf_X0_lowerMedian_d4_3 a d4 x1 hx1 j1 w1 w2 k11 hj11 hk11 c_1)
        refine lv_iload_n hx hb dX0_lowerMedian_94 rfl (lv_at hl 2 rfl) ?_
        exact W.iret (v := w1) hx hb hr (fun tt9 ht hW => ⟨⟨(w1 : Int32), (), rfl, trivial, trivial⟩, hS.F ht⟩) hS.2.2 dX0_lowerMedian_95 hlocks
      · have n_4 : j1 < 15 := (lf_X0_lowerMedian_d4_5 a d4 x1 hx1 j1 w1 w2 k11 hj11 hk11 c_1)
        refine lv_iload_n hx hb dX0_lowerMedian_18 rfl (lv_at hl 2 rfl) ?_
        refine lv_iload_n hx hb dX0_lowerMedian_19 rfl (lv_at hl 1 rfl) ?_
        refine lv_icmp_ge (tgt := 94) hx hb dX0_lowerMedian_20 (by decide) (fun c_6 => ?_) (fun c_6 => ?_)
        · refine lv_iload_n hx hb dX0_lowerMedian_94 rfl (lv_at hl 2 rfl) ?_
          exact W.iret (v := w1) hx hb hr (fun tt9 ht hW => ⟨⟨(w1 : Int32), (), rfl, trivial, trivial⟩, hS.F ht⟩) hS.2.2 dX0_lowerMedian_95 hlocks
        · refine lv_iload_n hx hb dX0_lowerMedian_23 rfl (lv_at hl 2 rfl) ?_
          refine lv_iload_n hx hb dX0_lowerMedian_24 rfl (lv_at hl 1 rfl) ?_
          refine lv_iadd hx hb dX0_lowerMedian_25 ?_
          refine lv_topi (fun x_7 ex_7 => ?_)
          refine lv_iconst (v := 2) hx hb dX0_lowerMedian_26 (by decide) ?_
          refine eRi (va_runS (As := [.int x_7, .int 2]) (rest := []) ⟨hx, hb, hml, hown, hts⟩ (c_J9_floorDiv l D cI cB cZ cJ tx x_7 2 (lf_X0_lowerMedian_d4_8 a d4 x1 hx1 j1 w1 w2 k11 hj11 hk11 c_1 n_4 c_6 x_7 ex_7) H.size) (zS hts k_963 v_J9_floorDiv_7cf53 ⟨Nat.le_of_ble_eq_true rfl, Nat.le_of_ble_eq_true rfl⟩) (px0 hK) rfl rfl hl.1 rfl (lv_room (Nat.le_of_ble_eq_true rfl)) dX0_lowerMedian_27 ⟨Nat.le_of_ble_eq_true rfl, Nat.le_of_ble_eq_true rfl⟩) hP hS hA (fun r_9 H locs wr_9 hP hS => ?_)
          refine lv_istore (lv' := [(5, .int r_9), (4, .int (nI j1)), (3, .int w2), (2, .int w1), (0, .ref (a 29)), (1, .int (nI x1))]) hx hb dX0_lowerMedian_30 hl (by decide) rfl (fun ls hl => ?_)
          refine lv_iconst (v := 0) hx hb dX0_lowerMedian_32 (by decide) ?_
          refine lv_istore (lv' := [(6, .int 0), (5, .int r_9), (4, .int (nI j1)), (3, .int w2), (2, .int w1), (0, .ref (a 29)), (1, .int (nI x1))]) hx hb dX0_lowerMedian_33 hl (by decide) rfl (fun ls hl => ?_)
          refine lv_iconst (v := 0) hx hb dX0_lowerMedian_35 (by decide) ?_
          refine lv_istore (lv' := [(7, .int 0), (6, .int 0), (5, .int r_9), (4, .int (nI j1)), (3, .int w2), (2, .int w1), (0, .ref (a 29)), (1, .int (nI x1))]) hx hb dX0_lowerMedian_36 hl (by decide) rfl (fun ls hl => ?_)
          have lp38 : ∀ (k38 : Nat) (j2 : Nat) (w3 : Int32) (H : Heap) (locs : List Loc) (ls : Array Slot), j2 ≤ x1 → x1 < j2 + k38 → va_P D vwCl [(a 29, .inl (cI, 384, .inl d4))] H → va_S A s.heap H locs → lv_has ls 8 [(7, .int (nI j2)), (6, .int w3), (5, .int r_9), (4, .int (nI j1)), (3, .int w2), (2, .int w1), (0, .ref (a 29)), (1, .int (nI x1))] → W p l e (rmX 1 0 0) s m ([.ref (a 29), .int (nI x1)] : List Value).toArray below meth c H locs 0 0 (MQ below (va_Qi (fun r (_ : Unit) => (fun r => True) r) (fun _ _ => True) A) ([.ref (a 29), .int (nI x1)] : List Value).toArray s 0 0 A) (F0 m 38 ls []) := by
            intro k38
            induction k38 with
            | zero =>
              intro j2 w3 H locs ls hj38 hk38  hP hS hl
              exact absurd hk38 (by omega)
            | succ k38 ih38 =>
              intro j2 w3 H locs ls hj38 hk38  hP hS hl
              refine lv_iload hx hb dX0_lowerMedian_38 (lv_at hl 0 rfl) ?_
              refine lv_iload_n hx hb dX0_lowerMedian_40 rfl (lv_at hl 7 rfl) ?_
              refine lv_icmp_ge (tgt := 69) hx hb dX0_lowerMedian_41 (by decide) (fun c_10 => ?_) (fun c_10 => ?_)
              · have n_11 : x1 ≤ j2 := (lf_X0_lowerMedian_d4_12 a d4 x1 hx1 j1 w1 w2 k11 hj11 hk11 c_1 n_4 c_6 x_7 ex_7 r_9 j2 w3 k38 hj38 hk38 c_10)
                refine lv_iconst (v := 2) hx hb dX0_lowerMedian_69 (by decide) ?_
                refine lv_iload hx hb dX0_lowerMedian_70 (lv_at hl 1 rfl) ?_
                refine lv_imul hx hb dX0_lowerMedian_72 ?_
                refine lv_topi (fun x_13 ex_13 => ?_)
                refine lv_iload_n hx hb dX0_lowerMedian_73 rfl (lv_at hl 7 rfl) ?_
                refine lv_icmp_lt (tgt := 83) hx hb dX0_lowerMedian_74 (by decide) (fun c_14 => ?_) (fun c_14 => ?_)
                · refine lv_iload hx hb dX0_lowerMedian_83 (lv_at hl 2 rfl) ?_
                  refine lv_iconst (v := 1) hx hb dX0_lowerMedian_85 (by decide) ?_
                  refine lv_iadd hx hb dX0_lowerMedian_86 ?_
                  refine lv_topi (fun x_15 ex_15 => ?_)
                  refine lv_istore_n (lv' := [(2, .int x_15), (7, .int (nI j2)), (6, .int w3), (5, .int r_9), (4, .int (nI j1)), (3, .int w2), (0, .ref (a 29)), (1, .int (nI x1))]) hx hb dX0_lowerMedian_87 rfl hl (by decide) rfl (fun ls hl => ?_)
                  refine lv_iinc (v := nI (j1 + 1)) (lv' := [(4, .int (nI (j1 + 1))), (2, .int x_15), (7, .int (nI j2)), (6, .int w3), (5, .int r_9), (3, .int w2), (0, .ref (a 29)), (1, .int (nI x1))]) hx hb dX0_lowerMedian_88 hl (k := 4) rfl (nI_1 j1) (by decide) rfl (fun ls hl => ?_)
                  refine lv_goto (tgt := 11) hx hb dX0_lowerMedian_91 (by decide) ?_
                  exact ih11 (j1 + 1) x_15 w2 H locs ls (by omega) (by omega)  (hP.sub [0] rfl)  hS (lv_sub hl [0, 5, 1, 6, 7] rfl)
                · refine lv_iload hx hb dX0_lowerMedian_77 (lv_at hl 2 rfl) ?_
                  refine lv_istore_n (lv' := [(3, .int r_9), (7, .int (nI j2)), (6, .int w3), (5, .int r_9), (4, .int (nI j1)), (2, .int w1), (0, .ref (a 29)), (1, .int (nI x1))]) hx hb dX0_lowerMedian_79 rfl hl (by decide) rfl (fun ls hl => ?_)
                  refine lv_goto (tgt := 88) hx hb dX0_lowerMedian_80 (by decide) ?_
                  refine lv_iinc (v := nI (j1 + 1)) (lv' := [(4, .int (nI (j1 + 1))), (3, .int r_9), (7, .int (nI j2)), (6, .int w3), (5, .int r_9), (2, .int w1), (0, .ref (a 29)), (1, .int (nI x1))]) hx hb dX0_lowerMedian_88 hl (k := 4) rfl (nI_1 j1) (by decide) rfl (fun ls hl => ?_)
                  refine lv_goto (tgt := 11) hx hb dX0_lowerMedian_91 (by decide) ?_
                  exact ih11 (j1 + 1) w1 r_9 H locs ls (by omega) (by omega)  (hP.sub [0] rfl)  hS (lv_sub hl [0, 1, 5, 6, 7] rfl)
              · have n_16 : j2 < x1 := (lf_X0_lowerMedian_d4_17 a d4 x1 hx1 j1 w1 w2 k11 hj11 hk11 c_1 n_4 c_6 x_7 ex_7 r_9 j2 w3 k38 hj38 hk38 c_10)
                refine lv_iload hx hb dX0_lowerMedian_44 (lv_at hl 1 rfl) ?_
                refine lv_aload_n hx hb dX0_lowerMedian_46 rfl (lv_at hl 6 rfl) ?_
                refine lv_iload hx hb dX0_lowerMedian_47 (lv_at hl 0 rfl) ?_
                refine ld_i hx hb hK hP 0 rfl (lf_X0_lowerMedian_d4_18 a d4 x1 hx1 j1 w1 w2 k11 hj11 hk11 c_1 n_4 c_6 x_7 ex_7 r_9 j2 w3 k38 hj38 hk38 c_10 n_16) dX0_lowerMedian_49 (fun x_19 => ?_)
                refine lv_iload hx hb dX0_lowerMedian_50 (lv_at hl 2 rfl) ?_
                refine lv_icmp_gt (tgt := 59) hx hb dX0_lowerMedian_52 (by decide) (fun c_20 => ?_) (fun c_20 => ?_)
                · refine lv_iconst (v := 0) hx hb dX0_lowerMedian_59 (by decide) ?_
                  refine lv_iadd hx hb dX0_lowerMedian_60 ?_
                  refine lv_topi (fun x_21 ex_21 => ?_)
                  refine lv_istore (lv' := [(6, .int x_21), (7, .int (nI j2)), (5, .int r_9), (4, .int (nI j1)), (3, .int w2), (2, .int w1), (0, .ref (a 29)), (1, .int (nI x1))]) hx hb dX0_lowerMedian_61 hl (by decide) rfl (fun ls hl => ?_)
                  refine lv_iinc (v := nI (j2 + 1)) (lv' := [(7, .int (nI (j2 + 1))), (6, .int x_21), (5, .int r_9), (4, .int (nI j1)), (3, .int w2), (2, .int w1), (0, .ref (a 29)), (1, .int (nI x1))]) hx hb dX0_lowerMedian_63 hl (k := 1) rfl (nI_1 j2) (by decide) rfl (fun ls hl => ?_)
                  refine lv_goto (tgt := 38) hx hb dX0_lowerMedian_66 (by decide) ?_
                  exact ih38 (j2 + 1) x_21 H locs ls (by omega) (by omega)  (hP.sub [0] rfl)  hS (lv_sub hl [0, 1, 2, 3, 4, 5, 6, 7] rfl)
                · refine lv_iconst (v := 1) hx hb dX0_lowerMedian_55 (by decide) ?_
                  refine lv_goto (tgt := 60) hx hb dX0_lowerMedian_56 (by decide) ?_
                  refine lv_iadd hx hb dX0_lowerMedian_60 ?_
                  refine lv_topi (fun x_22 ex_22 => ?_)
                  refine lv_istore (lv' := [(6, .int x_22), (7, .int (nI j2)), (5, .int r_9), (4, .int (nI j1)), (3, .int w2), (2, .int w1), (0, .ref (a 29)), (1, .int (nI x1))]) hx hb dX0_lowerMedian_61 hl (by decide) rfl (fun ls hl => ?_)
                  refine lv_iinc (v := nI (j2 + 1)) (lv' := [(7, .int (nI (j2 + 1))), (6, .int x_22), (5, .int r_9), (4, .int (nI j1)), (3, .int w2), (2, .int w1), (0, .ref (a 29)), (1, .int (nI x1))]) hx hb dX0_lowerMedian_63 hl (k := 1) rfl (nI_1 j2) (by decide) rfl (fun ls hl => ?_)
                  refine lv_goto (tgt := 38) hx hb dX0_lowerMedian_66 (by decide) ?_
                  exact ih38 (j2 + 1) x_22 H locs ls (by omega) (by omega)  (hP.sub [0] rfl)  hS (lv_sub hl [0, 1, 2, 3, 4, 5, 6, 7] rfl)
          exact lp38 (x1 + 1) 0 0 H locs ls (by omega) (by omega)  (hP.sub [0] rfl)  hS (lv_sub hl [0, 1, 2, 3, 4, 5, 6, 7] rfl)
  exact lp11 (15 + 1) 0 (-12000) 12000 H locs ls (by omega) (by omega)  (hP.sub [0] rfl)  hS (lv_sub hl [0, 1, 2, 3, 4] rfl)

theorem lf_X0_shift_1 (a : Nat → Nat) (dm : Nat) (d0 : Nat → Int32) (d1 : Nat → Int32) (d2 : Nat → Int32) (d3 : Nat → Int32) (x1 : Nat) (x2 : Nat) (n3 : Int32) (hdm : dm ≤ 4) (hx1 : x1 < dm) (hx2 : x2 < dm) : dm ≤ 4 := by
  first | assumption | omega | decide
theorem lf_X0_shift_2 (a : Nat → Nat) (dm : Nat) (d0 : Nat → Int32) (d1 : Nat → Int32) (d2 : Nat → Int32) (d3 : Nat → Int32) (x1 : Nat) (x2 : Nat) (n3 : Int32) (hdm : dm ≤ 4) (hx1 : x1 < dm) (hx2 : x2 < dm) : x1 < dm := by
  first | assumption | omega | decide
theorem lf_X0_shift_3 (a : Nat → Nat) (dm : Nat) (d0 : Nat → Int32) (d1 : Nat → Int32) (d2 : Nat → Int32) (d3 : Nat → Int32) (x1 : Nat) (x2 : Nat) (n3 : Int32) (hdm : dm ≤ 4) (hx1 : x1 < dm) (hx2 : x2 < dm) : x2 < dm := by
  first | assumption | omega | decide
theorem lf_X0_shift_7 (a : Nat → Nat) (dm : Nat) (d0 : Nat → Int32) (d1 : Nat → Int32) (d2 : Nat → Int32) (d3 : Nat → Int32) (x1 : Nat) (x2 : Nat) (n3 : Int32) (hdm : dm ≤ 4) (hx1 : x1 < dm) (hx2 : x2 < dm) (d3_5 : Nat → Int32) (mm_6 : Nat) (hmm_6 : mm_6 ≤ 384) : mm_6 ≤ 384 := by
  first | assumption | omega | decide
set_option maxHeartbeats 4000000 in
set_option maxRecDepth 100000 in
theorem c_X0_shift (l : Launch) (D : va_G) (cI cB cZ cJ : ClassId) (tx : List (ClassId × FieldType)) (a : Nat → Nat) (dm : Nat) (d0 : Nat → Int32) (d1 : Nat → Int32) (d2 : Nat → Int32) (d3 : Nat → Int32) (x1 : Nat) (x2 : Nat) (n3 : Int32) (hdm : dm ≤ 4) (hx1 : x1 < dm) (hx2 : x2 < dm) : WrI l D cI cB cZ cJ tx yX0_shift cX0_shift 4 (some .int) 4 0 0 [.ref (a 6), .int (nI x1), .int (nI x2), .int n3] [(a 6, .inr (0, [.ref (a 5), .ref (a 25), .ref (a 26), .ref (a 27), .ref (a 28), .ref (a 29), .int (nI dm)])), (a 25, .inl (cI, 1536, .inl d0)), (a 26, .inl (cI, 1536, .inl d1)), (a 27, .inl (cZ, 1536, .inl d2)), (a 28, .inl (cI, 384, .inl d3))] (fun (r : Int32) (v : (Nat → Int32)) => True) (fun v => [(a 6, .inr (0, [.ref (a 5), .ref (a 25), .ref (a 26), .ref (a 27), .ref (a 28), .ref (a 29), .int (nI dm)])), (a 25, .inl (cI, 1536, .inl d0)), (a 26, .inl (cI, 1536, .inl d1)), (a 27, .inl (cZ, 1536, .inl d2)), (a 28, .inl (cI, 384, .inl v))]) := by
  refine wri_of2 (by decide) (Nat.le_of_ble_eq_true rfl) ?_
  intro p e s m below meth c A ls H locs hC hK hP hD hA hS hl
  obtain ⟨hx, hb, hr, hml, hown, hts, hlocks, hin⟩ := hC
  have hown : s.vm.findClass RX0 = some m.cls := hown
  have hl : lv_has ls 4 [(0, .ref (a 6)), (1, .int (nI x1)), (2, .int (nI x2)), (3, .int n3)] := hl
  refine lv_aload_n hx hb dX0_shift_0 rfl (lv_at hl 0 rfl) ?_
  refine va_get (D := D) (ci := 0) (v := .ref (a 28)) (C := RX0) (T := TX0) (N := 7) hx hb hts inT_X0 hown hK.1 hP 0 rfl rfl 4 (by decide) (hts _ k_298) (fun _ h9 => h9) rfl dX0_shift_1 ?_
  refine lv_aload_n hx hb dX0_shift_4 rfl (lv_at hl 0 rfl) ?_
  refine lv_iload_n hx hb dX0_shift_5 rfl (lv_at hl 1 rfl) ?_
  refine lv_iload_n hx hb dX0_shift_6 rfl (lv_at hl 2 rfl) ?_
  refine lv_iload_n hx hb dX0_shift_7 rfl (lv_at hl 3 rfl) ?_
  refine lv_aload_n hx hb dX0_shift_8 rfl (lv_at hl 0 rfl) ?_
  refine va_get (D := D) (ci := 0) (v := .ref (a 28)) (C := RX0) (T := TX0) (N := 7) hx hb hts inT_X0 hown hK.1 hP 0 rfl rfl 4 (by decide) (hts _ k_298) (fun _ h9 => h9) rfl dX0_shift_9 ?_
  refine eWi (wr := []) (va_runV (As := [.int (nI x1), .int (nI x2), .int n3, .ref (a 28)]) (rest := [.ref (a 28)]) ⟨hx, hb, hml, hown, hts⟩ (c_X0_gather_d3 l D cI cB cZ cJ tx a dm d0 d1 d2 d3 x1 x2 n3 (lf_X0_shift_1 a dm d0 d1 d2 d3 x1 x2 n3 hdm hx1 hx2) (lf_X0_shift_2 a dm d0 d1 d2 d3 x1 x2 n3 hdm hx1 hx2) (lf_X0_shift_3 a dm d0 d1 d2 d3 x1 x2 n3 hdm hx1 hx2) H.size) (zV hts k_951 v_X0_gather ⟨Nat.le_of_ble_eq_true rfl, Nat.le_of_ble_eq_true rfl⟩) (pV (pxS hK hP hD [0, 1, 2, 3, 4] (by decide) rfl) hK hP 0 rfl rfl) rfl rfl hl.1 rfl (lv_room (Nat.le_of_ble_eq_true rfl)) dX0_shift_12 ⟨Nat.le_of_ble_eq_true rfl, Nat.le_of_ble_eq_true rfl⟩) hP hD hS hA [0, 1, 2, 3, 4] [] rfl rfl (by decide) (by decide) (fun r_4 u_5 H locs wr_4 hP hD hS => ?_)
  obtain ⟨d3_5, rfl⟩ : ∃ z, z = u_5 := ⟨_, rfl⟩
  have hP : va_P D vwCl [(a 6, .inr (0, [.ref (a 5), .ref (a 25), .ref (a 26), .ref (a 27), .ref (a 28), .ref (a 29), .int (nI dm)])), (a 25, .inl (cI, 1536, .inl d0)), (a 26, .inl (cI, 1536, .inl d1)), (a 27, .inl (cZ, 1536, .inl d2)), (a 28, .inl (cI, 384, .inl d3_5))] H := hP
  have hD : va_D A [(a 6, .inr (0, [.ref (a 5), .ref (a 25), .ref (a 26), .ref (a 27), .ref (a 28), .ref (a 29), .int (nI dm)])), (a 25, .inl (cI, 1536, .inl d0)), (a 26, .inl (cI, 1536, .inl d1)), (a 27, .inl (cZ, 1536, .inl d2)), (a 28, .inl (cI, 384, .inl d3_5))] := hD
  rcases wr_4 with ⟨mm_6, hmm_6, rfl⟩
  · refine eRi (va_runS (As := [.ref (a 28), .int (nI mm_6)]) (rest := []) ⟨hx, hb, hml, hown, hts⟩ (c_X0_lowerMedian_d3 l D cI cB cZ cJ tx a d3_5 mm_6 (lf_X0_shift_7 a dm d0 d1 d2 d3 x1 x2 n3 hdm hx1 hx2 d3_5 mm_6 hmm_6) H.size) (zS hts k_960 v_X0_lowerMedian ⟨Nat.le_of_ble_eq_true rfl, Nat.le_of_ble_eq_true rfl⟩) (px1 hK hP 4 rfl) rfl rfl hl.1 rfl (lv_room (Nat.le_of_ble_eq_true rfl)) dX0_shift_15 ⟨Nat.le_of_ble_eq_true rfl, Nat.le_of_ble_eq_true rfl⟩) hP hS hA (fun r_8 H locs wr_8 hP hS => ?_)
    exact W.iret (v := r_8) hx hb hr (fun tt9 ht hW => ⟨⟨(r_8 : Int32), ((d3_5 : Nat → Int32)), rfl, trivial, ⟨by rw [ht]; exact hP, hD⟩⟩, hS.F ht⟩) hS.2.2 dX0_shift_18 hlocks

theorem lf_X0_distance_1 (a : Nat → Nat) (dm : Nat) (d0 : Nat → Int32) (d1 : Nat → Int32) (d2 : Nat → Int32) (d3 : Nat → Int32) (x1 : Nat) (x2 : Nat) (x3 : Nat) (hdm : dm ≤ 4) (hx1 : x1 < dm) (hx2 : x2 < dm) (hx3 : x3 < 384) : x2 < 4 := by
  first | assumption | omega | decide
theorem lf_X0_distance_2 (a : Nat → Nat) (dm : Nat) (d0 : Nat → Int32) (d1 : Nat → Int32) (d2 : Nat → Int32) (d3 : Nat → Int32) (x1 : Nat) (x2 : Nat) (x3 : Nat) (hdm : dm ≤ 4) (hx1 : x1 < dm) (hx2 : x2 < dm) (hx3 : x3 < 384) : x3 < 384 := by
  first | assumption | omega | decide
theorem lf_X0_distance_4 (a : Nat → Nat) (dm : Nat) (d0 : Nat → Int32) (d1 : Nat → Int32) (d2 : Nat → Int32) (d3 : Nat → Int32) (x1 : Nat) (x2 : Nat) (x3 : Nat) (hdm : dm ≤ 4) (hx1 : x1 < dm) (hx2 : x2 < dm) (hx3 : x3 < 384) (r_3 : Int32) : x1 < 4 := by
  first | assumption | omega | decide
theorem lf_X0_distance_5 (a : Nat → Nat) (dm : Nat) (d0 : Nat → Int32) (d1 : Nat → Int32) (d2 : Nat → Int32) (d3 : Nat → Int32) (x1 : Nat) (x2 : Nat) (x3 : Nat) (hdm : dm ≤ 4) (hx1 : x1 < dm) (hx2 : x2 < dm) (hx3 : x3 < 384) (r_3 : Int32) : x3 < 384 := by
  first | assumption | omega | decide
theorem lf_X0_distance_8 (a : Nat → Nat) (dm : Nat) (d0 : Nat → Int32) (d1 : Nat → Int32) (d2 : Nat → Int32) (d3 : Nat → Int32) (x1 : Nat) (x2 : Nat) (x3 : Nat) (hdm : dm ≤ 4) (hx1 : x1 < dm) (hx2 : x2 < dm) (hx3 : x3 < 384) (r_3 : Int32) (r_6 : Int32) (x_7 : Int32) (ex_7 : x_7 = r_3 - r_6) : dm ≤ 4 := by
  first | assumption | omega | decide
theorem lf_X0_distance_9 (a : Nat → Nat) (dm : Nat) (d0 : Nat → Int32) (d1 : Nat → Int32) (d2 : Nat → Int32) (d3 : Nat → Int32) (x1 : Nat) (x2 : Nat) (x3 : Nat) (hdm : dm ≤ 4) (hx1 : x1 < dm) (hx2 : x2 < dm) (hx3 : x3 < 384) (r_3 : Int32) (r_6 : Int32) (x_7 : Int32) (ex_7 : x_7 = r_3 - r_6) : x1 < dm := by
  first | assumption | omega | decide
theorem lf_X0_distance_10 (a : Nat → Nat) (dm : Nat) (d0 : Nat → Int32) (d1 : Nat → Int32) (d2 : Nat → Int32) (d3 : Nat → Int32) (x1 : Nat) (x2 : Nat) (x3 : Nat) (hdm : dm ≤ 4) (hx1 : x1 < dm) (hx2 : x2 < dm) (hx3 : x3 < 384) (r_3 : Int32) (r_6 : Int32) (x_7 : Int32) (ex_7 : x_7 = r_3 - r_6) : x2 < dm := by
  first | assumption | omega | decide
theorem lf_X0_distance_16 (a : Nat → Nat) (dm : Nat) (d0 : Nat → Int32) (d1 : Nat → Int32) (d2 : Nat → Int32) (d3 : Nat → Int32) (x1 : Nat) (x2 : Nat) (x3 : Nat) (hdm : dm ≤ 4) (hx1 : x1 < dm) (hx2 : x2 < dm) (hx3 : x3 < 384) (r_3 : Int32) (r_6 : Int32) (x_7 : Int32) (ex_7 : x_7 = r_3 - r_6) (d3_12 : Nat → Int32) (r_11 : Int32) (x_13 : Int32) (ex_13 : x_13 = x_7 - r_11) (x_14 : Int32) (x_15 : Int32) (ex_15 : x_15 = 0 + x_14) : x2 < 4 := by
  first | assumption | omega | decide
theorem lf_X0_distance_17 (a : Nat → Nat) (dm : Nat) (d0 : Nat → Int32) (d1 : Nat → Int32) (d2 : Nat → Int32) (d3 : Nat → Int32) (x1 : Nat) (x2 : Nat) (x3 : Nat) (hdm : dm ≤ 4) (hx1 : x1 < dm) (hx2 : x2 < dm) (hx3 : x3 < 384) (r_3 : Int32) (r_6 : Int32) (x_7 : Int32) (ex_7 : x_7 = r_3 - r_6) (d3_12 : Nat → Int32) (r_11 : Int32) (x_13 : Int32) (ex_13 : x_13 = x_7 - r_11) (x_14 : Int32) (x_15 : Int32) (ex_15 : x_15 = 0 + x_14) : x3 < 384 := by
  first | assumption | omega | decide
theorem lf_X0_distance_19 (a : Nat → Nat) (dm : Nat) (d0 : Nat → Int32) (d1 : Nat → Int32) (d2 : Nat → Int32) (d3 : Nat → Int32) (x1 : Nat) (x2 : Nat) (x3 : Nat) (hdm : dm ≤ 4) (hx1 : x1 < dm) (hx2 : x2 < dm) (hx3 : x3 < 384) (r_3 : Int32) (r_6 : Int32) (x_7 : Int32) (ex_7 : x_7 = r_3 - r_6) (d3_12 : Nat → Int32) (r_11 : Int32) (x_13 : Int32) (ex_13 : x_13 = x_7 - r_11) (x_14 : Int32) (x_15 : Int32) (ex_15 : x_15 = 0 + x_14) (r_18 : Int32) : x1 < 4 := by
  first | assumption | omega | decide
theorem lf_X0_distance_20 (a : Nat → Nat) (dm : Nat) (d0 : Nat → Int32) (d1 : Nat → Int32) (d2 : Nat → Int32) (d3 : Nat → Int32) (x1 : Nat) (x2 : Nat) (x3 : Nat) (hdm : dm ≤ 4) (hx1 : x1 < dm) (hx2 : x2 < dm) (hx3 : x3 < 384) (r_3 : Int32) (r_6 : Int32) (x_7 : Int32) (ex_7 : x_7 = r_3 - r_6) (d3_12 : Nat → Int32) (r_11 : Int32) (x_13 : Int32) (ex_13 : x_13 = x_7 - r_11) (x_14 : Int32) (x_15 : Int32) (ex_15 : x_15 = 0 + x_14) (r_18 : Int32) : x3 < 384 := by
  first | assumption | omega | decide
theorem lf_X0_distance_23 (a : Nat → Nat) (dm : Nat) (d0 : Nat → Int32) (d1 : Nat → Int32) (d2 : Nat → Int32) (d3 : Nat → Int32) (x1 : Nat) (x2 : Nat) (x3 : Nat) (hdm : dm ≤ 4) (hx1 : x1 < dm) (hx2 : x2 < dm) (hx3 : x3 < 384) (r_3 : Int32) (r_6 : Int32) (x_7 : Int32) (ex_7 : x_7 = r_3 - r_6) (d3_12 : Nat → Int32) (r_11 : Int32) (x_13 : Int32) (ex_13 : x_13 = x_7 - r_11) (x_14 : Int32) (x_15 : Int32) (ex_15 : x_15 = 0 + x_14) (r_18 : Int32) (r_21 : Int32) (x_22 : Int32) (ex_22 : x_22 = r_18 - r_21) : dm ≤ 4 := by
  first | assumption | omega | decide
theorem lf_X0_distance_24 (a : Nat → Nat) (dm : Nat) (d0 : Nat → Int32) (d1 : Nat → Int32) (d2 : Nat → Int32) (d3 : Nat → Int32) (x1 : Nat) (x2 : Nat) (x3 : Nat) (hdm : dm ≤ 4) (hx1 : x1 < dm) (hx2 : x2 < dm) (hx3 : x3 < 384) (r_3 : Int32) (r_6 : Int32) (x_7 : Int32) (ex_7 : x_7 = r_3 - r_6) (d3_12 : Nat → Int32) (r_11 : Int32) (x_13 : Int32) (ex_13 : x_13 = x_7 - r_11) (x_14 : Int32) (x_15 : Int32) (ex_15 : x_15 = 0 + x_14) (r_18 : Int32) (r_21 : Int32) (x_22 : Int32) (ex_22 : x_22 = r_18 - r_21) : x1 < dm := by
  first | assumption | omega | decide
theorem lf_X0_distance_25 (a : Nat → Nat) (dm : Nat) (d0 : Nat → Int32) (d1 : Nat → Int32) (d2 : Nat → Int32) (d3 : Nat → Int32) (x1 : Nat) (x2 : Nat) (x3 : Nat) (hdm : dm ≤ 4) (hx1 : x1 < dm) (hx2 : x2 < dm) (hx3 : x3 < 384) (r_3 : Int32) (r_6 : Int32) (x_7 : Int32) (ex_7 : x_7 = r_3 - r_6) (d3_12 : Nat → Int32) (r_11 : Int32) (x_13 : Int32) (ex_13 : x_13 = x_7 - r_11) (x_14 : Int32) (x_15 : Int32) (ex_15 : x_15 = 0 + x_14) (r_18 : Int32) (r_21 : Int32) (x_22 : Int32) (ex_22 : x_22 = r_18 - r_21) : x2 < dm := by
  first | assumption | omega | decide
set_option maxHeartbeats 4000000 in
set_option maxRecDepth 100000 in
theorem c_X0_distance (l : Launch) (D : va_G) (cI cB cZ cJ : ClassId) (tx : List (ClassId × FieldType)) (a : Nat → Nat) (dm : Nat) (d0 : Nat → Int32) (d1 : Nat → Int32) (d2 : Nat → Int32) (d3 : Nat → Int32) (x1 : Nat) (x2 : Nat) (x3 : Nat) (hdm : dm ≤ 4) (hx1 : x1 < dm) (hx2 : x2 < dm) (hx3 : x3 < 384) : WrI l D cI cB cZ cJ tx yX0_distance cX0_distance 7 (some .int) 5 0 0 [.ref (a 6), .int (nI x1), .int (nI x2), .int (nI x3)] [(a 6, .inr (0, [.ref (a 5), .ref (a 25), .ref (a 26), .ref (a 27), .ref (a 28), .ref (a 29), .int (nI dm)])), (a 25, .inl (cI, 1536, .inl d0)), (a 26, .inl (cI, 1536, .inl d1)), (a 27, .inl (cZ, 1536, .inl d2)), (a 28, .inl (cI, 384, .inl d3))] (fun (r : Int32) (v : (Nat → Int32)) => True) (fun v => [(a 6, .inr (0, [.ref (a 5), .ref (a 25), .ref (a 26), .ref (a 27), .ref (a 28), .ref (a 29), .int (nI dm)])), (a 25, .inl (cI, 1536, .inl d0)), (a 26, .inl (cI, 1536, .inl d1)), (a 27, .inl (cZ, 1536, .inl d2)), (a 28, .inl (cI, 384, .inl v))]) := by
  refine wri_of2 (by decide) (Nat.le_of_ble_eq_true rfl) ?_
  intro p e s m below meth c A ls H locs hC hK hP hD hA hS hl
  obtain ⟨hx, hb, hr, hml, hown, hts, hlocks, hin⟩ := hC
  have hown : s.vm.findClass RX0 = some m.cls := hown
  have hl : lv_has ls 7 [(0, .ref (a 6)), (1, .int (nI x1)), (2, .int (nI x2)), (3, .int (nI x3))] := hl
  refine lv_iconst (v := 0) hx hb dX0_distance_0 (by decide) ?_
  refine lv_istore (lv' := [(4, .int 0), (0, .ref (a 6)), (1, .int (nI x1)), (2, .int (nI x2)), (3, .int (nI x3))]) hx hb dX0_distance_1 hl (by decide) rfl (fun ls hl => ?_)
  refine lv_iconst (v := 0) hx hb dX0_distance_3 (by decide) ?_
  refine lv_istore (lv' := [(5, .int 0), (4, .int 0), (0, .ref (a 6)), (1, .int (nI x1)), (2, .int (nI x2)), (3, .int (nI x3))]) hx hb dX0_distance_4 hl (by decide) rfl (fun ls hl => ?_)
  refine lv_iload hx hb dX0_distance_6 (lv_at hl 0 rfl) ?_
  refine lv_iconst (v := 2) hx hb dX0_distance_8 (by decide) ?_
  refine lv_icmp_ge (tgt := 56) hx hb dX0_distance_9 (by decide) (fun c => absurd c (by decide)) (fun _ => ?_)
  refine lv_aload_n hx hb dX0_distance_12 rfl (lv_at hl 2 rfl) ?_
  refine lv_iload_n hx hb dX0_distance_13 rfl (lv_at hl 4 rfl) ?_
  refine lv_iload_n hx hb dX0_distance_14 rfl (lv_at hl 5 rfl) ?_
  refine lv_iload hx hb dX0_distance_15 (lv_at hl 0 rfl) ?_
  refine eRi (va_runV (As := [.int (nI x2), .int (nI x3), .int 0]) (rest := []) ⟨hx, hb, hml, hown, hts⟩ (c_X0_at l D cI cB cZ cJ tx a dm d0 d1 x2 x3 0 (lf_X0_distance_1 a dm d0 d1 d2 d3 x1 x2 x3 hdm hx1 hx2 hx3) (lf_X0_distance_2 a dm d0 d1 d2 d3 x1 x2 x3 hdm hx1 hx2 hx3) H.size) (zV hts k_955 v_X0_at ⟨Nat.le_of_ble_eq_true rfl, Nat.le_of_ble_eq_true rfl⟩) (pV (pxS hK hP hD [0, 1, 2] (by decide) rfl) hK hP 0 rfl rfl) rfl rfl hl.1 rfl (lv_room (Nat.le_of_ble_eq_true rfl)) dX0_distance_17 ⟨Nat.le_of_ble_eq_true rfl, Nat.le_of_ble_eq_true rfl⟩) hP hS hA (fun r_3 H locs wr_3 hP hS => ?_)
  refine lv_aload_n hx hb dX0_distance_20 rfl (lv_at hl 2 rfl) ?_
  refine lv_iload_n hx hb dX0_distance_21 rfl (lv_at hl 3 rfl) ?_
  refine lv_iload_n hx hb dX0_distance_22 rfl (lv_at hl 5 rfl) ?_
  refine lv_iload hx hb dX0_distance_23 (lv_at hl 0 rfl) ?_
  refine eRi (va_runV (As := [.int (nI x1), .int (nI x3), .int 0]) (rest := [.int r_3]) ⟨hx, hb, hml, hown, hts⟩ (c_X0_at l D cI cB cZ cJ tx a dm d0 d1 x1 x3 0 (lf_X0_distance_4 a dm d0 d1 d2 d3 x1 x2 x3 hdm hx1 hx2 hx3 r_3) (lf_X0_distance_5 a dm d0 d1 d2 d3 x1 x2 x3 hdm hx1 hx2 hx3 r_3) H.size) (zV hts k_955 v_X0_at ⟨Nat.le_of_ble_eq_true rfl, Nat.le_of_ble_eq_true rfl⟩) (pV (pxS hK hP hD [0, 1, 2] (by decide) rfl) hK hP 0 rfl rfl) rfl rfl hl.1 rfl (lv_room (Nat.le_of_ble_eq_true rfl)) dX0_distance_25 ⟨Nat.le_of_ble_eq_true rfl, Nat.le_of_ble_eq_true rfl⟩) hP hS hA (fun r_6 H locs wr_6 hP hS => ?_)
  refine lv_isub hx hb dX0_distance_28 ?_
  refine lv_topi (fun x_7 ex_7 => ?_)
  refine lv_istore (lv' := [(6, .int x_7), (5, .int 0), (4, .int 0), (0, .ref (a 6)), (1, .int (nI x1)), (2, .int (nI x2)), (3, .int (nI x3))]) hx hb dX0_distance_29 hl (by decide) rfl (fun ls hl => ?_)
  refine lv_iload hx hb dX0_distance_31 (lv_at hl 2 rfl) ?_
  refine lv_iload hx hb dX0_distance_33 (lv_at hl 0 rfl) ?_
  refine lv_aload_n hx hb dX0_distance_35 rfl (lv_at hl 3 rfl) ?_
  refine lv_iload_n hx hb dX0_distance_36 rfl (lv_at hl 4 rfl) ?_
  refine lv_iload_n hx hb dX0_distance_37 rfl (lv_at hl 5 rfl) ?_
  refine lv_iload hx hb dX0_distance_38 (lv_at hl 1 rfl) ?_
  refine eWi (wr := []) (va_runV (As := [.int (nI x1), .int (nI x2), .int 0]) (rest := [.int x_7, .int 0]) ⟨hx, hb, hml, hown, hts⟩ (c_X0_shift l D cI cB cZ cJ tx a dm d0 d1 d2 d3 x1 x2 0 (lf_X0_distance_8 a dm d0 d1 d2 d3 x1 x2 x3 hdm hx1 hx2 hx3 r_3 r_6 x_7 ex_7) (lf_X0_distance_9 a dm d0 d1 d2 d3 x1 x2 x3 hdm hx1 hx2 hx3 r_3 r_6 x_7 ex_7) (lf_X0_distance_10 a dm d0 d1 d2 d3 x1 x2 x3 hdm hx1 hx2 hx3 r_3 r_6 x_7 ex_7) H.size) (zV hts k_989 v_X0_shift ⟨Nat.le_of_ble_eq_true rfl, Nat.le_of_ble_eq_true rfl⟩) (pV (pxS hK hP hD [0, 1, 2, 3, 4] (by decide) rfl) hK hP 0 rfl rfl) rfl rfl hl.1 rfl (lv_room (Nat.le_of_ble_eq_true rfl)) dX0_distance_40 ⟨Nat.le_of_ble_eq_true rfl, Nat.le_of_ble_eq_true rfl⟩) hP hD hS hA [0, 1, 2, 3, 4] [] rfl rfl (by decide) (by decide) (fun r_11 u_12 H locs wr_11 hP hD hS => ?_)
  obtain ⟨d3_12, rfl⟩ : ∃ z, z = u_12 := ⟨_, rfl⟩
  have hP : va_P D vwCl [(a 6, .inr (0, [.ref (a 5), .ref (a 25), .ref (a 26), .ref (a 27), .ref (a 28), .ref (a 29), .int (nI dm)])), (a 25, .inl (cI, 1536, .inl d0)), (a 26, .inl (cI, 1536, .inl d1)), (a 27, .inl (cZ, 1536, .inl d2)), (a 28, .inl (cI, 384, .inl d3_12))] H := hP
  have hD : va_D A [(a 6, .inr (0, [.ref (a 5), .ref (a 25), .ref (a 26), .ref (a 27), .ref (a 28), .ref (a 29), .int (nI dm)])), (a 25, .inl (cI, 1536, .inl d0)), (a 26, .inl (cI, 1536, .inl d1)), (a 27, .inl (cZ, 1536, .inl d2)), (a 28, .inl (cI, 384, .inl d3_12))] := hD
  refine lv_isub hx hb dX0_distance_43 ?_
  refine lv_topi (fun x_13 ex_13 => ?_)
  refine va_mabs hx hb (by rw [hml]; exact hl.1.symm) hown (hts _ k_970) (hts _ k_971) (hts _ k_131) (hts _ k_972) (Nat.le_of_ble_eq_true rfl) (Nat.le_of_ble_eq_true rfl) (Nat.le_of_ble_eq_true rfl) (Nat.le_of_ble_eq_true rfl) dX0_distance_44 ?_
  refine lv_topi (fun x_14 _ => ?_)
  refine lv_iadd hx hb dX0_distance_47 ?_
  refine lv_topi (fun x_15 ex_15 => ?_)
  refine lv_istore (lv' := [(4, .int x_15), (6, .int x_7), (5, .int 0), (0, .ref (a 6)), (1, .int (nI x1)), (2, .int (nI x2)), (3, .int (nI x3))]) hx hb dX0_distance_48 hl (by decide) rfl (fun ls hl => ?_)
  refine lv_iinc (v := 1) (lv' := [(5, .int 1), (4, .int x_15), (6, .int x_7), (0, .ref (a 6)), (1, .int (nI x1)), (2, .int (nI x2)), (3, .int (nI x3))]) hx hb dX0_distance_50 hl (k := 2) rfl (by decide) (by decide) rfl (fun ls hl => ?_)
  refine lv_goto (tgt := 6) hx hb dX0_distance_53 (by decide) ?_
  refine lv_iload hx hb dX0_distance_6 (lv_at hl 0 rfl) ?_
  refine lv_iconst (v := 2) hx hb dX0_distance_8 (by decide) ?_
  refine lv_icmp_ge (tgt := 56) hx hb dX0_distance_9 (by decide) (fun c => absurd c (by decide)) (fun _ => ?_)
  refine lv_aload_n hx hb dX0_distance_12 rfl (lv_at hl 3 rfl) ?_
  refine lv_iload_n hx hb dX0_distance_13 rfl (lv_at hl 5 rfl) ?_
  refine lv_iload_n hx hb dX0_distance_14 rfl (lv_at hl 6 rfl) ?_
  refine lv_iload hx hb dX0_distance_15 (lv_at hl 0 rfl) ?_
  refine eRi (va_runV (As := [.int (nI x2), .int (nI x3), .int 1]) (rest := []) ⟨hx, hb, hml, hown, hts⟩ (c_X0_at l D cI cB cZ cJ tx a dm d0 d1 x2 x3 1 (lf_X0_distance_16 a dm d0 d1 d2 d3 x1 x2 x3 hdm hx1 hx2 hx3 r_3 r_6 x_7 ex_7 d3_12 r_11 x_13 ex_13 x_14 x_15 ex_15) (lf_X0_distance_17 a dm d0 d1 d2 d3 x1 x2 x3 hdm hx1 hx2 hx3 r_3 r_6 x_7 ex_7 d3_12 r_11 x_13 ex_13 x_14 x_15 ex_15) H.size) (zV hts k_955 v_X0_at ⟨Nat.le_of_ble_eq_true rfl, Nat.le_of_ble_eq_true rfl⟩) (pV (pxS hK hP hD [0, 1, 2] (by decide) rfl) hK hP 0 rfl rfl) rfl rfl hl.1 rfl (lv_room (Nat.le_of_ble_eq_true rfl)) dX0_distance_17 ⟨Nat.le_of_ble_eq_true rfl, Nat.le_of_ble_eq_true rfl⟩) hP hS hA (fun r_18 H locs wr_18 hP hS => ?_)
  refine lv_aload_n hx hb dX0_distance_20 rfl (lv_at hl 3 rfl) ?_
  refine lv_iload_n hx hb dX0_distance_21 rfl (lv_at hl 4 rfl) ?_
  refine lv_iload_n hx hb dX0_distance_22 rfl (lv_at hl 6 rfl) ?_
  refine lv_iload hx hb dX0_distance_23 (lv_at hl 0 rfl) ?_
  refine eRi (va_runV (As := [.int (nI x1), .int (nI x3), .int 1]) (rest := [.int r_18]) ⟨hx, hb, hml, hown, hts⟩ (c_X0_at l D cI cB cZ cJ tx a dm d0 d1 x1 x3 1 (lf_X0_distance_19 a dm d0 d1 d2 d3 x1 x2 x3 hdm hx1 hx2 hx3 r_3 r_6 x_7 ex_7 d3_12 r_11 x_13 ex_13 x_14 x_15 ex_15 r_18) (lf_X0_distance_20 a dm d0 d1 d2 d3 x1 x2 x3 hdm hx1 hx2 hx3 r_3 r_6 x_7 ex_7 d3_12 r_11 x_13 ex_13 x_14 x_15 ex_15 r_18) H.size) (zV hts k_955 v_X0_at ⟨Nat.le_of_ble_eq_true rfl, Nat.le_of_ble_eq_true rfl⟩) (pV (pxS hK hP hD [0, 1, 2] (by decide) rfl) hK hP 0 rfl rfl) rfl rfl hl.1 rfl (lv_room (Nat.le_of_ble_eq_true rfl)) dX0_distance_25 ⟨Nat.le_of_ble_eq_true rfl, Nat.le_of_ble_eq_true rfl⟩) hP hS hA (fun r_21 H locs wr_21 hP hS => ?_)
  refine lv_isub hx hb dX0_distance_28 ?_
  refine lv_topi (fun x_22 ex_22 => ?_)
  refine lv_istore (lv' := [(6, .int x_22), (5, .int 1), (4, .int x_15), (0, .ref (a 6)), (1, .int (nI x1)), (2, .int (nI x2)), (3, .int (nI x3))]) hx hb dX0_distance_29 hl (by decide) rfl (fun ls hl => ?_)
  refine lv_iload hx hb dX0_distance_31 (lv_at hl 2 rfl) ?_
  refine lv_iload hx hb dX0_distance_33 (lv_at hl 0 rfl) ?_
  refine lv_aload_n hx hb dX0_distance_35 rfl (lv_at hl 3 rfl) ?_
  refine lv_iload_n hx hb dX0_distance_36 rfl (lv_at hl 4 rfl) ?_
  refine lv_iload_n hx hb dX0_distance_37 rfl (lv_at hl 5 rfl) ?_
  refine lv_iload hx hb dX0_distance_38 (lv_at hl 1 rfl) ?_
  refine eWi (wr := []) (va_runV (As := [.int (nI x1), .int (nI x2), .int 1]) (rest := [.int x_22, .int x_15]) ⟨hx, hb, hml, hown, hts⟩ (c_X0_shift l D cI cB cZ cJ tx a dm d0 d1 d2 d3_12 x1 x2 1 (lf_X0_distance_23 a dm d0 d1 d2 d3 x1 x2 x3 hdm hx1 hx2 hx3 r_3 r_6 x_7 ex_7 d3_12 r_11 x_13 ex_13 x_14 x_15 ex_15 r_18 r_21 x_22 ex_22) (lf_X0_distance_24 a dm d0 d1 d2 d3 x1 x2 x3 hdm hx1 hx2 hx3 r_3 r_6 x_7 ex_7 d3_12 r_11 x_13 ex_13 x_14 x_15 ex_15 r_18 r_21 x_22 ex_22) (lf_X0_distance_25 a dm d0 d1 d2 d3 x1 x2 x3 hdm hx1 hx2 hx3 r_3 r_6 x_7 ex_7 d3_12 r_11 x_13 ex_13 x_14 x_15 ex_15 r_18 r_21 x_22 ex_22) H.size) (zV hts k_989 v_X0_shift ⟨Nat.le_of_ble_eq_true rfl, Nat.le_of_ble_eq_true rfl⟩) (pV (pxS hK hP hD [0, 1, 2, 3, 4] (by decide) rfl) hK hP 0 rfl rfl) rfl rfl hl.1 rfl (lv_room (Nat.le_of_ble_eq_true rfl)) dX0_distance_40 ⟨Nat.le_of_ble_eq_true rfl, Nat.le_of_ble_eq_true rfl⟩) hP hD hS hA [0, 1, 2, 3, 4] [] rfl rfl (by decide) (by decide) (fun r_26 u_27 H locs wr_26 hP hD hS => ?_)
  obtain ⟨d3_27, rfl⟩ : ∃ z, z = u_27 := ⟨_, rfl⟩
  have hP : va_P D vwCl [(a 6, .inr (0, [.ref (a 5), .ref (a 25), .ref (a 26), .ref (a 27), .ref (a 28), .ref (a 29), .int (nI dm)])), (a 25, .inl (cI, 1536, .inl d0)), (a 26, .inl (cI, 1536, .inl d1)), (a 27, .inl (cZ, 1536, .inl d2)), (a 28, .inl (cI, 384, .inl d3_27))] H := hP
  have hD : va_D A [(a 6, .inr (0, [.ref (a 5), .ref (a 25), .ref (a 26), .ref (a 27), .ref (a 28), .ref (a 29), .int (nI dm)])), (a 25, .inl (cI, 1536, .inl d0)), (a 26, .inl (cI, 1536, .inl d1)), (a 27, .inl (cZ, 1536, .inl d2)), (a 28, .inl (cI, 384, .inl d3_27))] := hD
  refine lv_isub hx hb dX0_distance_43 ?_
  refine lv_topi (fun x_28 ex_28 => ?_)
  refine va_mabs hx hb (by rw [hml]; exact hl.1.symm) hown (hts _ k_970) (hts _ k_971) (hts _ k_131) (hts _ k_972) (Nat.le_of_ble_eq_true rfl) (Nat.le_of_ble_eq_true rfl) (Nat.le_of_ble_eq_true rfl) (Nat.le_of_ble_eq_true rfl) dX0_distance_44 ?_
  refine lv_topi (fun x_29 _ => ?_)
  refine lv_iadd hx hb dX0_distance_47 ?_
  refine lv_topi (fun x_30 ex_30 => ?_)
  refine lv_istore (lv' := [(4, .int x_30), (6, .int x_22), (5, .int 1), (0, .ref (a 6)), (1, .int (nI x1)), (2, .int (nI x2)), (3, .int (nI x3))]) hx hb dX0_distance_48 hl (by decide) rfl (fun ls hl => ?_)
  refine lv_iinc (v := 2) (lv' := [(5, .int 2), (4, .int x_30), (6, .int x_22), (0, .ref (a 6)), (1, .int (nI x1)), (2, .int (nI x2)), (3, .int (nI x3))]) hx hb dX0_distance_50 hl (k := 2) rfl (by decide) (by decide) rfl (fun ls hl => ?_)
  refine lv_goto (tgt := 6) hx hb dX0_distance_53 (by decide) ?_
  refine lv_iload hx hb dX0_distance_6 (lv_at hl 0 rfl) ?_
  refine lv_iconst (v := 2) hx hb dX0_distance_8 (by decide) ?_
  refine lv_icmp_ge (tgt := 56) hx hb dX0_distance_9 (by decide) (fun _ => ?_) (fun c => absurd c (by decide))
  refine lv_iload hx hb dX0_distance_56 (lv_at hl 1 rfl) ?_
  exact W.iret (v := x_30) hx hb hr (fun tt9 ht hW => ⟨⟨(x_30 : Int32), ((d3_27 : Nat → Int32)), rfl, trivial, ⟨by rw [ht]; exact hP, hD⟩⟩, hS.F ht⟩) hS.2.2 dX0_distance_58 hlocks

theorem lf_X0_take_3 (a : Nat → Nat) (dm : Nat) (d0 : Nat → Int32) (d1 : Nat → Int32) (d2 : Nat → Int32) (sn : Nat) (sk : Nat) (scu : Int32) (sch : Int32) (g0 : Nat → Int32) (g1 : Nat → Int32) (g3 : Nat → Int32) (x1 : Nat) (n2 : Int32) (n3 : Int32) (n4 : Int32) (hdm : dm ≤ 4) (hx1 : x1 < dm) (hsn : sn ≤ 24) (hsk : sk ≤ 8) (j1 : Nat) (y3_a25 : Nat → Int32) (y3_a26 : Nat → Int32) (y3_a27 : Nat → Int32) (sch_j1 : Int32) (k3 : Nat) (hj3 : j1 ≤ sn) (hk3 : sn < j1 + (k3 + 1)) (c_1 : nI sn ≤ nI j1) : sn ≤ j1 := by
  exact (nI_leI (a := sn) (b := j1) (by omega) (by omega)).mp c_1
theorem lf_X0_take_5 (a : Nat → Nat) (dm : Nat) (d0 : Nat → Int32) (d1 : Nat → Int32) (d2 : Nat → Int32) (sn : Nat) (sk : Nat) (scu : Int32) (sch : Int32) (g0 : Nat → Int32) (g1 : Nat → Int32) (g3 : Nat → Int32) (x1 : Nat) (n2 : Int32) (n3 : Int32) (n4 : Int32) (hdm : dm ≤ 4) (hx1 : x1 < dm) (hsn : sn ≤ 24) (hsk : sk ≤ 8) (j1 : Nat) (y3_a25 : Nat → Int32) (y3_a26 : Nat → Int32) (y3_a27 : Nat → Int32) (sch_j1 : Int32) (k3 : Nat) (hj3 : j1 ≤ sn) (hk3 : sn < j1 + (k3 + 1)) (c_1 : ¬ nI sn ≤ nI j1) : j1 < sn := by
  exact Nat.lt_of_not_le (fun q => c_1 ((nI_leI (a := sn) (b := j1) (by omega) (by omega)).mpr q))
theorem lf_X0_take_8 (a : Nat → Nat) (dm : Nat) (d0 : Nat → Int32) (d1 : Nat → Int32) (d2 : Nat → Int32) (sn : Nat) (sk : Nat) (scu : Int32) (sch : Int32) (g0 : Nat → Int32) (g1 : Nat → Int32) (g3 : Nat → Int32) (x1 : Nat) (n2 : Int32) (n3 : Int32) (n4 : Int32) (hdm : dm ≤ 4) (hx1 : x1 < dm) (hsn : sn ≤ 24) (hsk : sk ≤ 8) (j1 : Nat) (y3_a25 : Nat → Int32) (y3_a26 : Nat → Int32) (y3_a27 : Nat → Int32) (sch_j1 : Int32) (k3 : Nat) (hj3 : j1 ≤ sn) (hk3 : sn < j1 + (k3 + 1)) (c_1 : ¬ nI sn ≤ nI j1) (n_4 : j1 < sn) (j2 : Nat) (y18_a25 : Nat → Int32) (y18_a26 : Nat → Int32) (y18_a27 : Nat → Int32) (sch_j2 : Int32) (k18 : Nat) (hj18 : j2 ≤ sk) (hk18 : sk < j2 + (k18 + 1)) (c_6 : nI sk ≤ nI j2) : sk ≤ j2 := by
  exact (nI_leI (a := sk) (b := j2) (by omega) (by omega)).mp c_6
theorem lf_X0_take_10 (a : Nat → Nat) (dm : Nat) (d0 : Nat → Int32) (d1 : Nat → Int32) (d2 : Nat → Int32) (sn : Nat) (sk : Nat) (scu : Int32) (sch : Int32) (g0 : Nat → Int32) (g1 : Nat → Int32) (g3 : Nat → Int32) (x1 : Nat) (n2 : Int32) (n3 : Int32) (n4 : Int32) (hdm : dm ≤ 4) (hx1 : x1 < dm) (hsn : sn ≤ 24) (hsk : sk ≤ 8) (j1 : Nat) (y3_a25 : Nat → Int32) (y3_a26 : Nat → Int32) (y3_a27 : Nat → Int32) (sch_j1 : Int32) (k3 : Nat) (hj3 : j1 ≤ sn) (hk3 : sn < j1 + (k3 + 1)) (c_1 : ¬ nI sn ≤ nI j1) (n_4 : j1 < sn) (j2 : Nat) (y18_a25 : Nat → Int32) (y18_a26 : Nat → Int32) (y18_a27 : Nat → Int32) (sch_j2 : Int32) (k18 : Nat) (hj18 : j2 ≤ sk) (hk18 : sk < j2 + (k18 + 1)) (c_6 : ¬ nI sk ≤ nI j2) : j2 < sk := by
  exact Nat.lt_of_not_le (fun q => c_6 ((nI_leI (a := sk) (b := j2) (by omega) (by omega)).mpr q))
theorem lf_X0_take_13 (a : Nat → Nat) (dm : Nat) (d0 : Nat → Int32) (d1 : Nat → Int32) (d2 : Nat → Int32) (sn : Nat) (sk : Nat) (scu : Int32) (sch : Int32) (g0 : Nat → Int32) (g1 : Nat → Int32) (g3 : Nat → Int32) (x1 : Nat) (n2 : Int32) (n3 : Int32) (n4 : Int32) (hdm : dm ≤ 4) (hx1 : x1 < dm) (hsn : sn ≤ 24) (hsk : sk ≤ 8) (j1 : Nat) (y3_a25 : Nat → Int32) (y3_a26 : Nat → Int32) (y3_a27 : Nat → Int32) (sch_j1 : Int32) (k3 : Nat) (hj3 : j1 ≤ sn) (hk3 : sn < j1 + (k3 + 1)) (c_1 : ¬ nI sn ≤ nI j1) (n_4 : j1 < sn) (j2 : Nat) (y18_a25 : Nat → Int32) (y18_a26 : Nat → Int32) (y18_a27 : Nat → Int32) (sch_j2 : Int32) (k18 : Nat) (hj18 : j2 ≤ sk) (hk18 : sk < j2 + (k18 + 1)) (c_6 : ¬ nI sk ≤ nI j2) (n_9 : j2 < sk) (j3 : Nat) (y33_a25 : Nat → Int32) (y33_a26 : Nat → Int32) (y33_a27 : Nat → Int32) (sch_j3 : Int32) (k33 : Nat) (hj33 : j3 ≤ 2) (hk33 : 2 < j3 + (k33 + 1)) (c_11 : 2 ≤ nI j3) : 2 ≤ j3 := by
  exact (nI_leI (a := 2) (b := j3) (by omega) (by omega)).mp c_11
theorem lf_X0_take_15 (a : Nat → Nat) (dm : Nat) (d0 : Nat → Int32) (d1 : Nat → Int32) (d2 : Nat → Int32) (sn : Nat) (sk : Nat) (scu : Int32) (sch : Int32) (g0 : Nat → Int32) (g1 : Nat → Int32) (g3 : Nat → Int32) (x1 : Nat) (n2 : Int32) (n3 : Int32) (n4 : Int32) (hdm : dm ≤ 4) (hx1 : x1 < dm) (hsn : sn ≤ 24) (hsk : sk ≤ 8) (j1 : Nat) (y3_a25 : Nat → Int32) (y3_a26 : Nat → Int32) (y3_a27 : Nat → Int32) (sch_j1 : Int32) (k3 : Nat) (hj3 : j1 ≤ sn) (hk3 : sn < j1 + (k3 + 1)) (c_1 : ¬ nI sn ≤ nI j1) (n_4 : j1 < sn) (j2 : Nat) (y18_a25 : Nat → Int32) (y18_a26 : Nat → Int32) (y18_a27 : Nat → Int32) (sch_j2 : Int32) (k18 : Nat) (hj18 : j2 ≤ sk) (hk18 : sk < j2 + (k18 + 1)) (c_6 : ¬ nI sk ≤ nI j2) (n_9 : j2 < sk) (j3 : Nat) (y33_a25 : Nat → Int32) (y33_a26 : Nat → Int32) (y33_a27 : Nat → Int32) (sch_j3 : Int32) (k33 : Nat) (hj33 : j3 ≤ 2) (hk33 : 2 < j3 + (k33 + 1)) (c_11 : ¬ 2 ≤ nI j3) : j3 < 2 := by
  exact Nat.lt_of_not_le (fun q => c_11 ((nI_leI (a := 2) (b := j3) (by omega) (by omega)).mpr q))
theorem lf_X0_take_16 (a : Nat → Nat) (dm : Nat) (d0 : Nat → Int32) (d1 : Nat → Int32) (d2 : Nat → Int32) (sn : Nat) (sk : Nat) (scu : Int32) (sch : Int32) (g0 : Nat → Int32) (g1 : Nat → Int32) (g3 : Nat → Int32) (x1 : Nat) (n2 : Int32) (n3 : Int32) (n4 : Int32) (hdm : dm ≤ 4) (hx1 : x1 < dm) (hsn : sn ≤ 24) (hsk : sk ≤ 8) (j1 : Nat) (y3_a25 : Nat → Int32) (y3_a26 : Nat → Int32) (y3_a27 : Nat → Int32) (sch_j1 : Int32) (k3 : Nat) (hj3 : j1 ≤ sn) (hk3 : sn < j1 + (k3 + 1)) (c_1 : ¬ nI sn ≤ nI j1) (n_4 : j1 < sn) (j2 : Nat) (y18_a25 : Nat → Int32) (y18_a26 : Nat → Int32) (y18_a27 : Nat → Int32) (sch_j2 : Int32) (k18 : Nat) (hj18 : j2 ≤ sk) (hk18 : sk < j2 + (k18 + 1)) (c_6 : ¬ nI sk ≤ nI j2) (n_9 : j2 < sk) (j3 : Nat) (y33_a25 : Nat → Int32) (y33_a26 : Nat → Int32) (y33_a27 : Nat → Int32) (sch_j3 : Int32) (k33 : Nat) (hj33 : j3 ≤ 2) (hk33 : 2 < j3 + (k33 + 1)) (c_11 : ¬ 2 ≤ nI j3) (n_14 : j3 < 2) : sn ≤ 24 := by
  first | assumption | omega | decide
theorem lf_X0_take_17 (a : Nat → Nat) (dm : Nat) (d0 : Nat → Int32) (d1 : Nat → Int32) (d2 : Nat → Int32) (sn : Nat) (sk : Nat) (scu : Int32) (sch : Int32) (g0 : Nat → Int32) (g1 : Nat → Int32) (g3 : Nat → Int32) (x1 : Nat) (n2 : Int32) (n3 : Int32) (n4 : Int32) (hdm : dm ≤ 4) (hx1 : x1 < dm) (hsn : sn ≤ 24) (hsk : sk ≤ 8) (j1 : Nat) (y3_a25 : Nat → Int32) (y3_a26 : Nat → Int32) (y3_a27 : Nat → Int32) (sch_j1 : Int32) (k3 : Nat) (hj3 : j1 ≤ sn) (hk3 : sn < j1 + (k3 + 1)) (c_1 : ¬ nI sn ≤ nI j1) (n_4 : j1 < sn) (j2 : Nat) (y18_a25 : Nat → Int32) (y18_a26 : Nat → Int32) (y18_a27 : Nat → Int32) (sch_j2 : Int32) (k18 : Nat) (hj18 : j2 ≤ sk) (hk18 : sk < j2 + (k18 + 1)) (c_6 : ¬ nI sk ≤ nI j2) (n_9 : j2 < sk) (j3 : Nat) (y33_a25 : Nat → Int32) (y33_a26 : Nat → Int32) (y33_a27 : Nat → Int32) (sch_j3 : Int32) (k33 : Nat) (hj33 : j3 ≤ 2) (hk33 : 2 < j3 + (k33 + 1)) (c_11 : ¬ 2 ≤ nI j3) (n_14 : j3 < 2) : sk ≤ 8 := by
  first | assumption | omega | decide
theorem lf_X0_take_18 (a : Nat → Nat) (dm : Nat) (d0 : Nat → Int32) (d1 : Nat → Int32) (d2 : Nat → Int32) (sn : Nat) (sk : Nat) (scu : Int32) (sch : Int32) (g0 : Nat → Int32) (g1 : Nat → Int32) (g3 : Nat → Int32) (x1 : Nat) (n2 : Int32) (n3 : Int32) (n4 : Int32) (hdm : dm ≤ 4) (hx1 : x1 < dm) (hsn : sn ≤ 24) (hsk : sk ≤ 8) (j1 : Nat) (y3_a25 : Nat → Int32) (y3_a26 : Nat → Int32) (y3_a27 : Nat → Int32) (sch_j1 : Int32) (k3 : Nat) (hj3 : j1 ≤ sn) (hk3 : sn < j1 + (k3 + 1)) (c_1 : ¬ nI sn ≤ nI j1) (n_4 : j1 < sn) (j2 : Nat) (y18_a25 : Nat → Int32) (y18_a26 : Nat → Int32) (y18_a27 : Nat → Int32) (sch_j2 : Int32) (k18 : Nat) (hj18 : j2 ≤ sk) (hk18 : sk < j2 + (k18 + 1)) (c_6 : ¬ nI sk ≤ nI j2) (n_9 : j2 < sk) (j3 : Nat) (y33_a25 : Nat → Int32) (y33_a26 : Nat → Int32) (y33_a27 : Nat → Int32) (sch_j3 : Int32) (k33 : Nat) (hj33 : j3 ≤ 2) (hk33 : 2 < j3 + (k33 + 1)) (c_11 : ¬ 2 ≤ nI j3) (n_14 : j3 < 2) : j1 < sn := by
  first | assumption | omega | decide
theorem lf_X0_take_19 (a : Nat → Nat) (dm : Nat) (d0 : Nat → Int32) (d1 : Nat → Int32) (d2 : Nat → Int32) (sn : Nat) (sk : Nat) (scu : Int32) (sch : Int32) (g0 : Nat → Int32) (g1 : Nat → Int32) (g3 : Nat → Int32) (x1 : Nat) (n2 : Int32) (n3 : Int32) (n4 : Int32) (hdm : dm ≤ 4) (hx1 : x1 < dm) (hsn : sn ≤ 24) (hsk : sk ≤ 8) (j1 : Nat) (y3_a25 : Nat → Int32) (y3_a26 : Nat → Int32) (y3_a27 : Nat → Int32) (sch_j1 : Int32) (k3 : Nat) (hj3 : j1 ≤ sn) (hk3 : sn < j1 + (k3 + 1)) (c_1 : ¬ nI sn ≤ nI j1) (n_4 : j1 < sn) (j2 : Nat) (y18_a25 : Nat → Int32) (y18_a26 : Nat → Int32) (y18_a27 : Nat → Int32) (sch_j2 : Int32) (k18 : Nat) (hj18 : j2 ≤ sk) (hk18 : sk < j2 + (k18 + 1)) (c_6 : ¬ nI sk ≤ nI j2) (n_9 : j2 < sk) (j3 : Nat) (y33_a25 : Nat → Int32) (y33_a26 : Nat → Int32) (y33_a27 : Nat → Int32) (sch_j3 : Int32) (k33 : Nat) (hj33 : j3 ≤ 2) (hk33 : 2 < j3 + (k33 + 1)) (c_11 : ¬ 2 ≤ nI j3) (n_14 : j3 < 2) : j2 < sk := by
  first | assumption | omega | decide
theorem lf_X0_take_20 (a : Nat → Nat) (dm : Nat) (d0 : Nat → Int32) (d1 : Nat → Int32) (d2 : Nat → Int32) (sn : Nat) (sk : Nat) (scu : Int32) (sch : Int32) (g0 : Nat → Int32) (g1 : Nat → Int32) (g3 : Nat → Int32) (x1 : Nat) (n2 : Int32) (n3 : Int32) (n4 : Int32) (hdm : dm ≤ 4) (hx1 : x1 < dm) (hsn : sn ≤ 24) (hsk : sk ≤ 8) (j1 : Nat) (y3_a25 : Nat → Int32) (y3_a26 : Nat → Int32) (y3_a27 : Nat → Int32) (sch_j1 : Int32) (k3 : Nat) (hj3 : j1 ≤ sn) (hk3 : sn < j1 + (k3 + 1)) (c_1 : ¬ nI sn ≤ nI j1) (n_4 : j1 < sn) (j2 : Nat) (y18_a25 : Nat → Int32) (y18_a26 : Nat → Int32) (y18_a27 : Nat → Int32) (sch_j2 : Int32) (k18 : Nat) (hj18 : j2 ≤ sk) (hk18 : sk < j2 + (k18 + 1)) (c_6 : ¬ nI sk ≤ nI j2) (n_9 : j2 < sk) (j3 : Nat) (y33_a25 : Nat → Int32) (y33_a26 : Nat → Int32) (y33_a27 : Nat → Int32) (sch_j3 : Int32) (k33 : Nat) (hj33 : j3 ≤ 2) (hk33 : 2 < j3 + (k33 + 1)) (c_11 : ¬ 2 ≤ nI j3) (n_14 : j3 < 2) : j3 < 2 := by
  first | assumption | omega | decide
theorem lf_X0_take_22 (a : Nat → Nat) (dm : Nat) (d0 : Nat → Int32) (d1 : Nat → Int32) (d2 : Nat → Int32) (sn : Nat) (sk : Nat) (scu : Int32) (sch : Int32) (g0 : Nat → Int32) (g1 : Nat → Int32) (g3 : Nat → Int32) (x1 : Nat) (n2 : Int32) (n3 : Int32) (n4 : Int32) (hdm : dm ≤ 4) (hx1 : x1 < dm) (hsn : sn ≤ 24) (hsk : sk ≤ 8) (j1 : Nat) (y3_a25 : Nat → Int32) (y3_a26 : Nat → Int32) (y3_a27 : Nat → Int32) (sch_j1 : Int32) (k3 : Nat) (hj3 : j1 ≤ sn) (hk3 : sn < j1 + (k3 + 1)) (c_1 : ¬ nI sn ≤ nI j1) (n_4 : j1 < sn) (j2 : Nat) (y18_a25 : Nat → Int32) (y18_a26 : Nat → Int32) (y18_a27 : Nat → Int32) (sch_j2 : Int32) (k18 : Nat) (hj18 : j2 ≤ sk) (hk18 : sk < j2 + (k18 + 1)) (c_6 : ¬ nI sk ≤ nI j2) (n_9 : j2 < sk) (j3 : Nat) (y33_a25 : Nat → Int32) (y33_a26 : Nat → Int32) (y33_a27 : Nat → Int32) (sch_j3 : Int32) (k33 : Nat) (hj33 : j3 ≤ 2) (hk33 : 2 < j3 + (k33 + 1)) (c_11 : ¬ 2 ≤ nI j3) (n_14 : j3 < 2) : ¬ nI ((j1 * 8 + j2) * 2 + j3) < 0 := by
  first | exact nI_pos (by omega) | exact nI_pos' (by omega)
theorem lf_X0_take_23 (a : Nat → Nat) (dm : Nat) (d0 : Nat → Int32) (d1 : Nat → Int32) (d2 : Nat → Int32) (sn : Nat) (sk : Nat) (scu : Int32) (sch : Int32) (g0 : Nat → Int32) (g1 : Nat → Int32) (g3 : Nat → Int32) (x1 : Nat) (n2 : Int32) (n3 : Int32) (n4 : Int32) (hdm : dm ≤ 4) (hx1 : x1 < dm) (hsn : sn ≤ 24) (hsk : sk ≤ 8) (j1 : Nat) (y3_a25 : Nat → Int32) (y3_a26 : Nat → Int32) (y3_a27 : Nat → Int32) (sch_j1 : Int32) (k3 : Nat) (hj3 : j1 ≤ sn) (hk3 : sn < j1 + (k3 + 1)) (c_1 : ¬ nI sn ≤ nI j1) (n_4 : j1 < sn) (j2 : Nat) (y18_a25 : Nat → Int32) (y18_a26 : Nat → Int32) (y18_a27 : Nat → Int32) (sch_j2 : Int32) (k18 : Nat) (hj18 : j2 ≤ sk) (hk18 : sk < j2 + (k18 + 1)) (c_6 : ¬ nI sk ≤ nI j2) (n_9 : j2 < sk) (j3 : Nat) (y33_a25 : Nat → Int32) (y33_a26 : Nat → Int32) (y33_a27 : Nat → Int32) (sch_j3 : Int32) (k33 : Nat) (hj33 : j3 ≤ 2) (hk33 : 2 < j3 + (k33 + 1)) (c_11 : ¬ 2 ≤ nI j3) (n_14 : j3 < 2) : ((j1 * 8 + j2) * 2 + j3) < 384 := by
  first | assumption | omega | decide
theorem lf_X0_take_29 (a : Nat → Nat) (dm : Nat) (d0 : Nat → Int32) (d1 : Nat → Int32) (d2 : Nat → Int32) (sn : Nat) (sk : Nat) (scu : Int32) (sch : Int32) (g0 : Nat → Int32) (g1 : Nat → Int32) (g3 : Nat → Int32) (x1 : Nat) (n2 : Int32) (n3 : Int32) (n4 : Int32) (hdm : dm ≤ 4) (hx1 : x1 < dm) (hsn : sn ≤ 24) (hsk : sk ≤ 8) (j1 : Nat) (y3_a25 : Nat → Int32) (y3_a26 : Nat → Int32) (y3_a27 : Nat → Int32) (sch_j1 : Int32) (k3 : Nat) (hj3 : j1 ≤ sn) (hk3 : sn < j1 + (k3 + 1)) (c_1 : ¬ nI sn ≤ nI j1) (n_4 : j1 < sn) (j2 : Nat) (y18_a25 : Nat → Int32) (y18_a26 : Nat → Int32) (y18_a27 : Nat → Int32) (sch_j2 : Int32) (k18 : Nat) (hj18 : j2 ≤ sk) (hk18 : sk < j2 + (k18 + 1)) (c_6 : ¬ nI sk ≤ nI j2) (n_9 : j2 < sk) (j3 : Nat) (y33_a25 : Nat → Int32) (y33_a26 : Nat → Int32) (y33_a27 : Nat → Int32) (sch_j3 : Int32) (k33 : Nat) (hj33 : j3 ≤ 2) (hk33 : 2 < j3 + (k33 + 1)) (c_11 : ¬ 2 ≤ nI j3) (n_14 : j3 < 2) (r_24 : Int32) (c_25 : ¬ r_24 = 0) (sch_27 : Int32) (r_26 : Int32) (c_28 : n4 ≤ r_26) : vp_in (nI ((j1 * 8 + j2) * 2 + j3)) 384 := by
  first | exact vp_in_nI (by omega) (by decide) | (unfold vp_in; decide)
theorem lf_X0_take_33 (a : Nat → Nat) (dm : Nat) (d0 : Nat → Int32) (d1 : Nat → Int32) (d2 : Nat → Int32) (sn : Nat) (sk : Nat) (scu : Int32) (sch : Int32) (g0 : Nat → Int32) (g1 : Nat → Int32) (g3 : Nat → Int32) (x1 : Nat) (n2 : Int32) (n3 : Int32) (n4 : Int32) (hdm : dm ≤ 4) (hx1 : x1 < dm) (hsn : sn ≤ 24) (hsk : sk ≤ 8) (j1 : Nat) (y3_a25 : Nat → Int32) (y3_a26 : Nat → Int32) (y3_a27 : Nat → Int32) (sch_j1 : Int32) (k3 : Nat) (hj3 : j1 ≤ sn) (hk3 : sn < j1 + (k3 + 1)) (c_1 : ¬ nI sn ≤ nI j1) (n_4 : j1 < sn) (j2 : Nat) (y18_a25 : Nat → Int32) (y18_a26 : Nat → Int32) (y18_a27 : Nat → Int32) (sch_j2 : Int32) (k18 : Nat) (hj18 : j2 ≤ sk) (hk18 : sk < j2 + (k18 + 1)) (c_6 : ¬ nI sk ≤ nI j2) (n_9 : j2 < sk) (j3 : Nat) (y33_a25 : Nat → Int32) (y33_a26 : Nat → Int32) (y33_a27 : Nat → Int32) (sch_j3 : Int32) (k33 : Nat) (hj33 : j3 ≤ 2) (hk33 : 2 < j3 + (k33 + 1)) (c_11 : ¬ 2 ≤ nI j3) (n_14 : j3 < 2) (r_24 : Int32) (c_25 : ¬ r_24 = 0) (sch_27 : Int32) (r_26 : Int32) (c_28 : n4 ≤ r_26) (x_30 : Int32) (x_31 : Int32) (ex_31 : x_31 = x_30 + n2) (x_32 : Int32) (ex_32 : x_32 = x_31 + 0) : vp_in (nI ((j1 * 8 + j2) * 2 + j3)) 384 := by
  first | exact vp_in_nI (by omega) (by decide) | (unfold vp_in; decide)
theorem lf_X0_take_36 (a : Nat → Nat) (dm : Nat) (d0 : Nat → Int32) (d1 : Nat → Int32) (d2 : Nat → Int32) (sn : Nat) (sk : Nat) (scu : Int32) (sch : Int32) (g0 : Nat → Int32) (g1 : Nat → Int32) (g3 : Nat → Int32) (x1 : Nat) (n2 : Int32) (n3 : Int32) (n4 : Int32) (hdm : dm ≤ 4) (hx1 : x1 < dm) (hsn : sn ≤ 24) (hsk : sk ≤ 8) (j1 : Nat) (y3_a25 : Nat → Int32) (y3_a26 : Nat → Int32) (y3_a27 : Nat → Int32) (sch_j1 : Int32) (k3 : Nat) (hj3 : j1 ≤ sn) (hk3 : sn < j1 + (k3 + 1)) (c_1 : ¬ nI sn ≤ nI j1) (n_4 : j1 < sn) (j2 : Nat) (y18_a25 : Nat → Int32) (y18_a26 : Nat → Int32) (y18_a27 : Nat → Int32) (sch_j2 : Int32) (k18 : Nat) (hj18 : j2 ≤ sk) (hk18 : sk < j2 + (k18 + 1)) (c_6 : ¬ nI sk ≤ nI j2) (n_9 : j2 < sk) (j3 : Nat) (y33_a25 : Nat → Int32) (y33_a26 : Nat → Int32) (y33_a27 : Nat → Int32) (sch_j3 : Int32) (k33 : Nat) (hj33 : j3 ≤ 2) (hk33 : 2 < j3 + (k33 + 1)) (c_11 : ¬ 2 ≤ nI j3) (n_14 : j3 < 2) (r_24 : Int32) (c_25 : ¬ r_24 = 0) (sch_27 : Int32) (r_26 : Int32) (c_28 : n4 ≤ r_26) (x_30 : Int32) (x_31 : Int32) (ex_31 : x_31 = x_30 + n2) (x_32 : Int32) (ex_32 : x_32 = x_31 + 0) (x_34 : Int32) (x_35 : Int32) (ex_35 : x_35 = x_34 + n3) : x1 < 4 := by
  first | assumption | omega | decide
theorem lf_X0_take_37 (a : Nat → Nat) (dm : Nat) (d0 : Nat → Int32) (d1 : Nat → Int32) (d2 : Nat → Int32) (sn : Nat) (sk : Nat) (scu : Int32) (sch : Int32) (g0 : Nat → Int32) (g1 : Nat → Int32) (g3 : Nat → Int32) (x1 : Nat) (n2 : Int32) (n3 : Int32) (n4 : Int32) (hdm : dm ≤ 4) (hx1 : x1 < dm) (hsn : sn ≤ 24) (hsk : sk ≤ 8) (j1 : Nat) (y3_a25 : Nat → Int32) (y3_a26 : Nat → Int32) (y3_a27 : Nat → Int32) (sch_j1 : Int32) (k3 : Nat) (hj3 : j1 ≤ sn) (hk3 : sn < j1 + (k3 + 1)) (c_1 : ¬ nI sn ≤ nI j1) (n_4 : j1 < sn) (j2 : Nat) (y18_a25 : Nat → Int32) (y18_a26 : Nat → Int32) (y18_a27 : Nat → Int32) (sch_j2 : Int32) (k18 : Nat) (hj18 : j2 ≤ sk) (hk18 : sk < j2 + (k18 + 1)) (c_6 : ¬ nI sk ≤ nI j2) (n_9 : j2 < sk) (j3 : Nat) (y33_a25 : Nat → Int32) (y33_a26 : Nat → Int32) (y33_a27 : Nat → Int32) (sch_j3 : Int32) (k33 : Nat) (hj33 : j3 ≤ 2) (hk33 : 2 < j3 + (k33 + 1)) (c_11 : ¬ 2 ≤ nI j3) (n_14 : j3 < 2) (r_24 : Int32) (c_25 : ¬ r_24 = 0) (sch_27 : Int32) (r_26 : Int32) (c_28 : n4 ≤ r_26) (x_30 : Int32) (x_31 : Int32) (ex_31 : x_31 = x_30 + n2) (x_32 : Int32) (ex_32 : x_32 = x_31 + 0) (x_34 : Int32) (x_35 : Int32) (ex_35 : x_35 = x_34 + n3) : ((j1 * 8 + j2) * 2 + j3) < 384 := by
  first | assumption | omega | decide
theorem lf_X0_take_40 (a : Nat → Nat) (dm : Nat) (d0 : Nat → Int32) (d1 : Nat → Int32) (d2 : Nat → Int32) (sn : Nat) (sk : Nat) (scu : Int32) (sch : Int32) (g0 : Nat → Int32) (g1 : Nat → Int32) (g3 : Nat → Int32) (x1 : Nat) (n2 : Int32) (n3 : Int32) (n4 : Int32) (hdm : dm ≤ 4) (hx1 : x1 < dm) (hsn : sn ≤ 24) (hsk : sk ≤ 8) (j1 : Nat) (y3_a25 : Nat → Int32) (y3_a26 : Nat → Int32) (y3_a27 : Nat → Int32) (sch_j1 : Int32) (k3 : Nat) (hj3 : j1 ≤ sn) (hk3 : sn < j1 + (k3 + 1)) (c_1 : ¬ nI sn ≤ nI j1) (n_4 : j1 < sn) (j2 : Nat) (y18_a25 : Nat → Int32) (y18_a26 : Nat → Int32) (y18_a27 : Nat → Int32) (sch_j2 : Int32) (k18 : Nat) (hj18 : j2 ≤ sk) (hk18 : sk < j2 + (k18 + 1)) (c_6 : ¬ nI sk ≤ nI j2) (n_9 : j2 < sk) (j3 : Nat) (y33_a25 : Nat → Int32) (y33_a26 : Nat → Int32) (y33_a27 : Nat → Int32) (sch_j3 : Int32) (k33 : Nat) (hj33 : j3 ≤ 2) (hk33 : 2 < j3 + (k33 + 1)) (c_11 : ¬ 2 ≤ nI j3) (n_14 : j3 < 2) (r_24 : Int32) (c_25 : ¬ r_24 = 0) (sch_27 : Int32) (r_26 : Int32) (c_28 : ¬ n4 ≤ r_26) : vp_in (nI ((j1 * 8 + j2) * 2 + j3)) 384 := by
  first | exact vp_in_nI (by omega) (by decide) | (unfold vp_in; decide)
theorem lf_X0_take_44 (a : Nat → Nat) (dm : Nat) (d0 : Nat → Int32) (d1 : Nat → Int32) (d2 : Nat → Int32) (sn : Nat) (sk : Nat) (scu : Int32) (sch : Int32) (g0 : Nat → Int32) (g1 : Nat → Int32) (g3 : Nat → Int32) (x1 : Nat) (n2 : Int32) (n3 : Int32) (n4 : Int32) (hdm : dm ≤ 4) (hx1 : x1 < dm) (hsn : sn ≤ 24) (hsk : sk ≤ 8) (j1 : Nat) (y3_a25 : Nat → Int32) (y3_a26 : Nat → Int32) (y3_a27 : Nat → Int32) (sch_j1 : Int32) (k3 : Nat) (hj3 : j1 ≤ sn) (hk3 : sn < j1 + (k3 + 1)) (c_1 : ¬ nI sn ≤ nI j1) (n_4 : j1 < sn) (j2 : Nat) (y18_a25 : Nat → Int32) (y18_a26 : Nat → Int32) (y18_a27 : Nat → Int32) (sch_j2 : Int32) (k18 : Nat) (hj18 : j2 ≤ sk) (hk18 : sk < j2 + (k18 + 1)) (c_6 : ¬ nI sk ≤ nI j2) (n_9 : j2 < sk) (j3 : Nat) (y33_a25 : Nat → Int32) (y33_a26 : Nat → Int32) (y33_a27 : Nat → Int32) (sch_j3 : Int32) (k33 : Nat) (hj33 : j3 ≤ 2) (hk33 : 2 < j3 + (k33 + 1)) (c_11 : ¬ 2 ≤ nI j3) (n_14 : j3 < 2) (r_24 : Int32) (c_25 : ¬ r_24 = 0) (sch_27 : Int32) (r_26 : Int32) (c_28 : ¬ n4 ≤ r_26) (x_41 : Int32) (x_42 : Int32) (ex_42 : x_42 = x_41 + n2) (x_43 : Int32) (ex_43 : x_43 = x_42 + 50) : vp_in (nI ((j1 * 8 + j2) * 2 + j3)) 384 := by
  first | exact vp_in_nI (by omega) (by decide) | (unfold vp_in; decide)
theorem lf_X0_take_47 (a : Nat → Nat) (dm : Nat) (d0 : Nat → Int32) (d1 : Nat → Int32) (d2 : Nat → Int32) (sn : Nat) (sk : Nat) (scu : Int32) (sch : Int32) (g0 : Nat → Int32) (g1 : Nat → Int32) (g3 : Nat → Int32) (x1 : Nat) (n2 : Int32) (n3 : Int32) (n4 : Int32) (hdm : dm ≤ 4) (hx1 : x1 < dm) (hsn : sn ≤ 24) (hsk : sk ≤ 8) (j1 : Nat) (y3_a25 : Nat → Int32) (y3_a26 : Nat → Int32) (y3_a27 : Nat → Int32) (sch_j1 : Int32) (k3 : Nat) (hj3 : j1 ≤ sn) (hk3 : sn < j1 + (k3 + 1)) (c_1 : ¬ nI sn ≤ nI j1) (n_4 : j1 < sn) (j2 : Nat) (y18_a25 : Nat → Int32) (y18_a26 : Nat → Int32) (y18_a27 : Nat → Int32) (sch_j2 : Int32) (k18 : Nat) (hj18 : j2 ≤ sk) (hk18 : sk < j2 + (k18 + 1)) (c_6 : ¬ nI sk ≤ nI j2) (n_9 : j2 < sk) (j3 : Nat) (y33_a25 : Nat → Int32) (y33_a26 : Nat → Int32) (y33_a27 : Nat → Int32) (sch_j3 : Int32) (k33 : Nat) (hj33 : j3 ≤ 2) (hk33 : 2 < j3 + (k33 + 1)) (c_11 : ¬ 2 ≤ nI j3) (n_14 : j3 < 2) (r_24 : Int32) (c_25 : ¬ r_24 = 0) (sch_27 : Int32) (r_26 : Int32) (c_28 : ¬ n4 ≤ r_26) (x_41 : Int32) (x_42 : Int32) (ex_42 : x_42 = x_41 + n2) (x_43 : Int32) (ex_43 : x_43 = x_42 + 50) (x_45 : Int32) (x_46 : Int32) (ex_46 : x_46 = x_45 + n3) : x1 < 4 := by
  first | assumption | omega | decide
theorem lf_X0_take_48 (a : Nat → Nat) (dm : Nat) (d0 : Nat → Int32) (d1 : Nat → Int32) (d2 : Nat → Int32) (sn : Nat) (sk : Nat) (scu : Int32) (sch : Int32) (g0 : Nat → Int32) (g1 : Nat → Int32) (g3 : Nat → Int32) (x1 : Nat) (n2 : Int32) (n3 : Int32) (n4 : Int32) (hdm : dm ≤ 4) (hx1 : x1 < dm) (hsn : sn ≤ 24) (hsk : sk ≤ 8) (j1 : Nat) (y3_a25 : Nat → Int32) (y3_a26 : Nat → Int32) (y3_a27 : Nat → Int32) (sch_j1 : Int32) (k3 : Nat) (hj3 : j1 ≤ sn) (hk3 : sn < j1 + (k3 + 1)) (c_1 : ¬ nI sn ≤ nI j1) (n_4 : j1 < sn) (j2 : Nat) (y18_a25 : Nat → Int32) (y18_a26 : Nat → Int32) (y18_a27 : Nat → Int32) (sch_j2 : Int32) (k18 : Nat) (hj18 : j2 ≤ sk) (hk18 : sk < j2 + (k18 + 1)) (c_6 : ¬ nI sk ≤ nI j2) (n_9 : j2 < sk) (j3 : Nat) (y33_a25 : Nat → Int32) (y33_a26 : Nat → Int32) (y33_a27 : Nat → Int32) (sch_j3 : Int32) (k33 : Nat) (hj33 : j3 ≤ 2) (hk33 : 2 < j3 + (k33 + 1)) (c_11 : ¬ 2 ≤ nI j3) (n_14 : j3 < 2) (r_24 : Int32) (c_25 : ¬ r_24 = 0) (sch_27 : Int32) (r_26 : Int32) (c_28 : ¬ n4 ≤ r_26) (x_41 : Int32) (x_42 : Int32) (ex_42 : x_42 = x_41 + n2) (x_43 : Int32) (ex_43 : x_43 = x_42 + 50) (x_45 : Int32) (x_46 : Int32) (ex_46 : x_46 = x_45 + n3) : ((j1 * 8 + j2) * 2 + j3) < 384 := by
  first | assumption | omega | decide
set_option maxHeartbeats 4000000 in
set_option maxRecDepth 100000 in
theorem c_X0_take (l : Launch) (D : va_G) (cI cB cZ cJ : ClassId) (tx : List (ClassId × FieldType)) (a : Nat → Nat) (dm : Nat) (d0 : Nat → Int32) (d1 : Nat → Int32) (d2 : Nat → Int32) (sn : Nat) (sk : Nat) (scu : Int32) (sch : Int32) (g0 : Nat → Int32) (g1 : Nat → Int32) (g3 : Nat → Int32) (x1 : Nat) (n2 : Int32) (n3 : Int32) (n4 : Int32) (hdm : dm ≤ 4) (hx1 : x1 < dm) (hsn : sn ≤ 24) (hsk : sk ≤ 8) : WrV l D cI cB cZ cJ tx yX0_take cX0_take 10 none 3 0 0 [.ref (a 6), .int (nI x1), .int n2, .int n3, .int n4] [(a 6, .inr (0, [.ref (a 5), .ref (a 25), .ref (a 26), .ref (a 27), .ref (a 28), .ref (a 29), .int (nI dm)])), (a 25, .inl (cI, 1536, .inl d0)), (a 26, .inl (cI, 1536, .inl d1)), (a 27, .inl (cZ, 1536, .inl d2)), (a 5, .inr (4, [.ref (a 18), .ref (a 19), .ref (a 20), .ref (a 21), .ref (a 22), .ref (a 23), .ref (a 24), .int (nI sn), .int (nI sk), .int scu, .int sch])), (a 18, .inl (cI, 384, .inl g0)), (a 19, .inl (cI, 384, .inl g1)), (a 21, .inl (cZ, 384, .inl g3))] (fun (v : (Nat → Int32) × (Nat → Int32) × (Nat → Int32) × (Int32)) => True) (fun v => [(a 6, .inr (0, [.ref (a 5), .ref (a 25), .ref (a 26), .ref (a 27), .ref (a 28), .ref (a 29), .int (nI dm)])), (a 25, .inl (cI, 1536, .inl v.1)), (a 26, .inl (cI, 1536, .inl v.2.1)), (a 27, .inl (cZ, 1536, .inl v.2.2.1)), (a 5, .inr (4, [.ref (a 18), .ref (a 19), .ref (a 20), .ref (a 21), .ref (a 22), .ref (a 23), .ref (a 24), .int (nI sn), .int (nI sk), .int scu, .int v.2.2.2])), (a 18, .inl (cI, 384, .inl g0)), (a 19, .inl (cI, 384, .inl g1)), (a 21, .inl (cZ, 384, .inl g3))]) := by
  refine wrv_of2 (by decide) (Nat.le_of_ble_eq_true rfl) ?_
  intro p e s m below meth c A ls H locs hC hK hP hD hA hS hl
  obtain ⟨hx, hb, hr, hml, hown, hts, hlocks, hin⟩ := hC
  have hown : s.vm.findClass RX0 = some m.cls := hown
  have hl : lv_has ls 10 [(0, .ref (a 6)), (1, .int (nI x1)), (2, .int n2), (3, .int n3), (4, .int n4)] := hl
  refine lv_iconst (v := 0) hx hb dX0_take_0 (by decide) ?_
  refine lv_istore (lv' := [(5, .int 0), (0, .ref (a 6)), (1, .int (nI x1)), (2, .int n2), (3, .int n3), (4, .int n4)]) hx hb dX0_take_1 hl (by decide) rfl (fun ls hl => ?_)
  have lp3 : ∀ (k3 : Nat) (j1 : Nat) (y3_a25 : Nat → Int32) (y3_a26 : Nat → Int32) (y3_a27 : Nat → Int32) (sch_j1 : Int32) (H : Heap) (locs : List Loc) (ls : Array Slot), j1 ≤ sn → sn < j1 + k3 → va_P D vwCl [(a 6, .inr (0, [.ref (a 5), .ref (a 25), .ref (a 26), .ref (a 27), .ref (a 28), .ref (a 29), .int (nI dm)])), (a 25, .inl (cI, 1536, .inl y3_a25)), (a 26, .inl (cI, 1536, .inl y3_a26)), (a 27, .inl (cZ, 1536, .inl y3_a27)), (a 5, .inr (4, [.ref (a 18), .ref (a 19), .ref (a 20), .ref (a 21), .ref (a 22), .ref (a 23), .ref (a 24), .int (nI sn), .int (nI sk), .int scu, .int sch_j1])), (a 18, .inl (cI, 384, .inl g0)), (a 19, .inl (cI, 384, .inl g1)), (a 21, .inl (cZ, 384, .inl g3))] H → va_D A [(a 6, .inr (0, [.ref (a 5), .ref (a 25), .ref (a 26), .ref (a 27), .ref (a 28), .ref (a 29), .int (nI dm)])), (a 25, .inl (cI, 1536, .inl y3_a25)), (a 26, .inl (cI, 1536, .inl y3_a26)), (a 27, .inl (cZ, 1536, .inl y3_a27)), (a 5, .inr (4, [.ref (a 18), .ref (a 19), .ref (a 20), .ref (a 21), .ref (a 22), .ref (a 23), .ref (a 24), .int (nI sn), .int (nI sk), .int scu, .int sch_j1])), (a 18, .inl (cI, 384, .inl g0)), (a 19, .inl (cI, 384, .inl g1)), (a 21, .inl (cZ, 384, .inl g3))] → va_S A s.heap H locs → lv_has ls 10 [(5, .int (nI j1)), (0, .ref (a 6)), (1, .int (nI x1)), (2, .int n2), (3, .int n3), (4, .int n4)] → W p l e (rmX 3 0 0) s m ([.ref (a 6), .int (nI x1), .int n2, .int n3, .int n4] : List Value).toArray below meth c H locs 0 0 (MQ below (va_Qv (fun (v : (Nat → Int32) × (Nat → Int32) × (Nat → Int32) × (Int32)) => True) (fun u => BX D A ((fun v => [(a 6, .inr (0, [.ref (a 5), .ref (a 25), .ref (a 26), .ref (a 27), .ref (a 28), .ref (a 29), .int (nI dm)])), (a 25, .inl (cI, 1536, .inl v.1)), (a 26, .inl (cI, 1536, .inl v.2.1)), (a 27, .inl (cZ, 1536, .inl v.2.2.1)), (a 5, .inr (4, [.ref (a 18), .ref (a 19), .ref (a 20), .ref (a 21), .ref (a 22), .ref (a 23), .ref (a 24), .int (nI sn), .int (nI sk), .int scu, .int v.2.2.2])), (a 18, .inl (cI, 384, .inl g0)), (a 19, .inl (cI, 384, .inl g1)), (a 21, .inl (cZ, 384, .inl g3))]) u)) A) ([.ref (a 6), .int (nI x1), .int n2, .int n3, .int n4] : List Value).toArray s 0 0 A) (F0 m 3 ls []) := by
    intro k3
    induction k3 with
    | zero =>
      intro j1 y3_a25 y3_a26 y3_a27 sch_j1 H locs ls hj3 hk3  hP hD hS hl
      exact absurd hk3 (by omega)
    | succ k3 ih3 =>
      intro j1 y3_a25 y3_a26 y3_a27 sch_j1 H locs ls hj3 hk3  hP hD hS hl
      refine lv_iload hx hb dX0_take_3 (lv_at hl 0 rfl) ?_
      refine lv_aload_n hx hb dX0_take_5 rfl (lv_at hl 1 rfl) ?_
      refine va_get (D := D) (ci := 0) (v := .ref (a 5)) (C := RX0) (T := TX0) (N := 7) hx hb hts inT_X0 hown hK.1 hP 0 rfl rfl 0 (by decide) (hts _ k_294) (fun _ h9 => h9) rfl dX0_take_6 ?_
      refine va_getN (D := D) (ci := 4) (v := .int (nI sn)) (C := RX4) (T := TX4) (N := 11) hx hb hts inT_X4 hown hK.1 hP 4 rfl rfl 7 (by decide) (va_Nw.use rfl (hK.2.2.1 _ n_253)) (fun _ h9 => h9) rfl dX0_take_9 ?_
      refine lv_icmp_ge (tgt := 145) hx hb dX0_take_12 (by decide) (fun c_1 => ?_) (fun c_1 => ?_)
      · have n_2 : sn ≤ j1 := (lf_X0_take_3 a dm d0 d1 d2 sn sk scu sch g0 g1 g3 x1 n2 n3 n4 hdm hx1 hsn hsk j1 y3_a25 y3_a26 y3_a27 sch_j1 k3 hj3 hk3 c_1)
        exact W.vret hx hb hr (fun tt9 ht hW => ⟨⟨((y3_a25 : Nat → Int32), (y3_a26 : Nat → Int32), (y3_a27 : Nat → Int32), (sch_j1 : Int32)), rfl, trivial, ⟨by rw [ht]; exact hP, hD⟩⟩, hS.F ht⟩) hS.2.2 dX0_take_145 hlocks
      · have n_4 : j1 < sn := (lf_X0_take_5 a dm d0 d1 d2 sn sk scu sch g0 g1 g3 x1 n2 n3 n4 hdm hx1 hsn hsk j1 y3_a25 y3_a26 y3_a27 sch_j1 k3 hj3 hk3 c_1)
        refine lv_iconst (v := 0) hx hb dX0_take_15 (by decide) ?_
        refine lv_istore (lv' := [(6, .int 0), (5, .int (nI j1)), (0, .ref (a 6)), (1, .int (nI x1)), (2, .int n2), (3, .int n3), (4, .int n4)]) hx hb dX0_take_16 hl (by decide) rfl (fun ls hl => ?_)
        have lp18 : ∀ (k18 : Nat) (j2 : Nat) (y18_a25 : Nat → Int32) (y18_a26 : Nat → Int32) (y18_a27 : Nat → Int32) (sch_j2 : Int32) (H : Heap) (locs : List Loc) (ls : Array Slot), j2 ≤ sk → sk < j2 + k18 → va_P D vwCl [(a 6, .inr (0, [.ref (a 5), .ref (a 25), .ref (a 26), .ref (a 27), .ref (a 28), .ref (a 29), .int (nI dm)])), (a 25, .inl (cI, 1536, .inl y18_a25)), (a 26, .inl (cI, 1536, .inl y18_a26)), (a 27, .inl (cZ, 1536, .inl y18_a27)), (a 5, .inr (4, [.ref (a 18), .ref (a 19), .ref (a 20), .ref (a 21), .ref (a 22), .ref (a 23), .ref (a 24), .int (nI sn), .int (nI sk), .int scu, .int sch_j2])), (a 18, .inl (cI, 384, .inl g0)), (a 19, .inl (cI, 384, .inl g1)), (a 21, .inl (cZ, 384, .inl g3))] H → va_D A [(a 6, .inr (0, [.ref (a 5), .ref (a 25), .ref (a 26), .ref (a 27), .ref (a 28), .ref (a 29), .int (nI dm)])), (a 25, .inl (cI, 1536, .inl y18_a25)), (a 26, .inl (cI, 1536, .inl y18_a26)), (a 27, .inl (cZ, 1536, .inl y18_a27)), (a 5, .inr (4, [.ref (a 18), .ref (a 19), .ref (a 20), .ref (a 21), .ref (a 22), .ref (a 23), .ref (a 24), .int (nI sn), .int (nI sk), .int scu, .int sch_j2])), (a 18, .inl (cI, 384, .inl g0)), (a 19, .inl (cI, 384, .inl g1)), (a 21, .inl (cZ, 384, .inl g3))] → va_S A s.heap H locs → lv_has ls 10 [(6, .int (nI j2)), (5, .int (nI j1)), (0, .ref (a 6)), (1, .int (nI x1)), (2, .int n2), (3, .int n3), (4, .int n4)] → W p l e (rmX 3 0 0) s m ([.ref (a 6), .int (nI x1), .int n2, .int n3, .int n4] : List Value).toArray below meth c H locs 0 0 (MQ below (va_Qv (fun (v : (Nat → Int32) × (Nat → Int32) × (Nat → Int32) × (Int32)) => True) (fun u => BX D A ((fun v => [(a 6, .inr (0, [.ref (a 5), .ref (a 25), .ref (a 26), .ref (a 27), .ref (a 28), .ref (a 29), .int (nI dm)])), (a 25, .inl (cI, 1536, .inl v.1)), (a 26, .inl (cI, 1536, .inl v.2.1)), (a 27, .inl (cZ, 1536, .inl v.2.2.1)), (a 5, .inr (4, [.ref (a 18), .ref (a 19), .ref (a 20), .ref (a 21), .ref (a 22), .ref (a 23), .ref (a 24), .int (nI sn), .int (nI sk), .int scu, .int v.2.2.2])), (a 18, .inl (cI, 384, .inl g0)), (a 19, .inl (cI, 384, .inl g1)), (a 21, .inl (cZ, 384, .inl g3))]) u)) A) ([.ref (a 6), .int (nI x1), .int n2, .int n3, .int n4] : List Value).toArray s 0 0 A) (F0 m 18 ls []) := by
          intro k18
          induction k18 with
          | zero =>
            intro j2 y18_a25 y18_a26 y18_a27 sch_j2 H locs ls hj18 hk18  hP hD hS hl
            exact absurd hk18 (by omega)
          | succ k18 ih18 =>
            intro j2 y18_a25 y18_a26 y18_a27 sch_j2 H locs ls hj18 hk18  hP hD hS hl
            refine lv_iload hx hb dX0_take_18 (lv_at hl 0 rfl) ?_
            refine lv_aload_n hx hb dX0_take_20 rfl (lv_at hl 2 rfl) ?_
            refine va_get (D := D) (ci := 0) (v := .ref (a 5)) (C := RX0) (T := TX0) (N := 7) hx hb hts inT_X0 hown hK.1 hP 0 rfl rfl 0 (by decide) (hts _ k_294) (fun _ h9 => h9) rfl dX0_take_21 ?_
            refine va_getN (D := D) (ci := 4) (v := .int (nI sk)) (C := RX4) (T := TX4) (N := 11) hx hb hts inT_X4 hown hK.1 hP 4 rfl rfl 8 (by decide) (va_Nw.use rfl (hK.2.2.1 _ n_259)) (fun _ h9 => h9) rfl dX0_take_24 ?_
            refine lv_icmp_ge (tgt := 139) hx hb dX0_take_27 (by decide) (fun c_6 => ?_) (fun c_6 => ?_)
            · have n_7 : sk ≤ j2 := (lf_X0_take_8 a dm d0 d1 d2 sn sk scu sch g0 g1 g3 x1 n2 n3 n4 hdm hx1 hsn hsk j1 y3_a25 y3_a26 y3_a27 sch_j1 k3 hj3 hk3 c_1 n_4 j2 y18_a25 y18_a26 y18_a27 sch_j2 k18 hj18 hk18 c_6)
              refine lv_iinc (v := nI (j1 + 1)) (lv' := [(5, .int (nI (j1 + 1))), (6, .int (nI j2)), (0, .ref (a 6)), (1, .int (nI x1)), (2, .int n2), (3, .int n3), (4, .int n4)]) hx hb dX0_take_139 hl (k := 1) rfl (nI_1 j1) (by decide) rfl (fun ls hl => ?_)
              refine lv_goto (tgt := 3) hx hb dX0_take_142 (by decide) ?_
              exact ih3 (j1 + 1) y18_a25 y18_a26 y18_a27 sch_j2 H locs ls (by omega) (by omega)  (hP.sub [0, 1, 2, 3, 4, 5, 6, 7] rfl) (hD.sub [0, 1, 2, 3, 4, 5, 6, 7] (by decide) rfl) hS (lv_sub hl [0, 2, 3, 4, 5, 6] rfl)
            · have n_9 : j2 < sk := (lf_X0_take_10 a dm d0 d1 d2 sn sk scu sch g0 g1 g3 x1 n2 n3 n4 hdm hx1 hsn hsk j1 y3_a25 y3_a26 y3_a27 sch_j1 k3 hj3 hk3 c_1 n_4 j2 y18_a25 y18_a26 y18_a27 sch_j2 k18 hj18 hk18 c_6)
              refine lv_iconst (v := 0) hx hb dX0_take_30 (by decide) ?_
              refine lv_istore (lv' := [(7, .int 0), (6, .int (nI j2)), (5, .int (nI j1)), (0, .ref (a 6)), (1, .int (nI x1)), (2, .int n2), (3, .int n3), (4, .int n4)]) hx hb dX0_take_31 hl (by decide) rfl (fun ls hl => ?_)
              have lp33 : ∀ (k33 : Nat) (j3 : Nat) (y33_a25 : Nat → Int32) (y33_a26 : Nat → Int32) (y33_a27 : Nat → Int32) (sch_j3 : Int32) (H : Heap) (locs : List Loc) (ls : Array Slot), j3 ≤ 2 → 2 < j3 + k33 → va_P D vwCl [(a 6, .inr (0, [.ref (a 5), .ref (a 25), .ref (a 26), .ref (a 27), .ref (a 28), .ref (a 29), .int (nI dm)])), (a 25, .inl (cI, 1536, .inl y33_a25)), (a 26, .inl (cI, 1536, .inl y33_a26)), (a 27, .inl (cZ, 1536, .inl y33_a27)), (a 5, .inr (4, [.ref (a 18), .ref (a 19), .ref (a 20), .ref (a 21), .ref (a 22), .ref (a 23), .ref (a 24), .int (nI sn), .int (nI sk), .int scu, .int sch_j3])), (a 18, .inl (cI, 384, .inl g0)), (a 19, .inl (cI, 384, .inl g1)), (a 21, .inl (cZ, 384, .inl g3))] H → va_D A [(a 6, .inr (0, [.ref (a 5), .ref (a 25), .ref (a 26), .ref (a 27), .ref (a 28), .ref (a 29), .int (nI dm)])), (a 25, .inl (cI, 1536, .inl y33_a25)), (a 26, .inl (cI, 1536, .inl y33_a26)), (a 27, .inl (cZ, 1536, .inl y33_a27)), (a 5, .inr (4, [.ref (a 18), .ref (a 19), .ref (a 20), .ref (a 21), .ref (a 22), .ref (a 23), .ref (a 24), .int (nI sn), .int (nI sk), .int scu, .int sch_j3])), (a 18, .inl (cI, 384, .inl g0)), (a 19, .inl (cI, 384, .inl g1)), (a 21, .inl (cZ, 384, .inl g3))] → va_S A s.heap H locs → lv_has ls 10 [(7, .int (nI j3)), (6, .int (nI j2)), (5, .int (nI j1)), (0, .ref (a 6)), (1, .int (nI x1)), (2, .int n2), (3, .int n3), (4, .int n4)] → W p l e (rmX 3 0 0) s m ([.ref (a 6), .int (nI x1), .int n2, .int n3, .int n4] : List Value).toArray below meth c H locs 0 0 (MQ below (va_Qv (fun (v : (Nat → Int32) × (Nat → Int32) × (Nat → Int32) × (Int32)) => True) (fun u => BX D A ((fun v => [(a 6, .inr (0, [.ref (a 5), .ref (a 25), .ref (a 26), .ref (a 27), .ref (a 28), .ref (a 29), .int (nI dm)])), (a 25, .inl (cI, 1536, .inl v.1)), (a 26, .inl (cI, 1536, .inl v.2.1)), (a 27, .inl (cZ, 1536, .inl v.2.2.1)), (a 5, .inr (4, [.ref (a 18), .ref (a 19), .ref (a 20), .ref (a 21), .ref (a 22), .ref (a 23), .ref (a 24), .int (nI sn), .int (nI sk), .int scu, .int v.2.2.2])), (a 18, .inl (cI, 384, .inl g0)), (a 19, .inl (cI, 384, .inl g1)), (a 21, .inl (cZ, 384, .inl g3))]) u)) A) ([.ref (a 6), .int (nI x1), .int n2, .int n3, .int n4] : List Value).toArray s 0 0 A) (F0 m 33 ls []) := by
                intro k33
                induction k33 with
                | zero =>
                  intro j3 y33_a25 y33_a26 y33_a27 sch_j3 H locs ls hj33 hk33  hP hD hS hl
                  exact absurd hk33 (by omega)
                | succ k33 ih33 =>
                  intro j3 y33_a25 y33_a26 y33_a27 sch_j3 H locs ls hj33 hk33  hP hD hS hl
                  refine lv_iload hx hb dX0_take_33 (lv_at hl 0 rfl) ?_
                  refine lv_iconst (v := 2) hx hb dX0_take_35 (by decide) ?_
                  refine lv_icmp_ge (tgt := 133) hx hb dX0_take_36 (by decide) (fun c_11 => ?_) (fun c_11 => ?_)
                  · have n_12 : 2 ≤ j3 := (lf_X0_take_13 a dm d0 d1 d2 sn sk scu sch g0 g1 g3 x1 n2 n3 n4 hdm hx1 hsn hsk j1 y3_a25 y3_a26 y3_a27 sch_j1 k3 hj3 hk3 c_1 n_4 j2 y18_a25 y18_a26 y18_a27 sch_j2 k18 hj18 hk18 c_6 n_9 j3 y33_a25 y33_a26 y33_a27 sch_j3 k33 hj33 hk33 c_11)
                    refine lv_iinc (v := nI (j2 + 1)) (lv' := [(6, .int (nI (j2 + 1))), (7, .int (nI j3)), (5, .int (nI j1)), (0, .ref (a 6)), (1, .int (nI x1)), (2, .int n2), (3, .int n3), (4, .int n4)]) hx hb dX0_take_133 hl (k := 1) rfl (nI_1 j2) (by decide) rfl (fun ls hl => ?_)
                    refine lv_goto (tgt := 18) hx hb dX0_take_136 (by decide) ?_
                    exact ih18 (j2 + 1) y33_a25 y33_a26 y33_a27 sch_j3 H locs ls (by omega) (by omega)  (hP.sub [0, 1, 2, 3, 4, 5, 6, 7] rfl) (hD.sub [0, 1, 2, 3, 4, 5, 6, 7] (by decide) rfl) hS (lv_sub hl [0, 2, 3, 4, 5, 6, 7] rfl)
                  · have n_14 : j3 < 2 := (lf_X0_take_15 a dm d0 d1 d2 sn sk scu sch g0 g1 g3 x1 n2 n3 n4 hdm hx1 hsn hsk j1 y3_a25 y3_a26 y3_a27 sch_j1 k3 hj3 hk3 c_1 n_4 j2 y18_a25 y18_a26 y18_a27 sch_j2 k18 hj18 hk18 c_6 n_9 j3 y33_a25 y33_a26 y33_a27 sch_j3 k33 hj33 hk33 c_11)
                    refine lv_aload_n hx hb dX0_take_39 rfl (lv_at hl 3 rfl) ?_
                    refine va_get (D := D) (ci := 0) (v := .ref (a 5)) (C := RX0) (T := TX0) (N := 7) hx hb hts inT_X0 hown hK.1 hP 0 rfl rfl 0 (by decide) (hts _ k_294) (fun _ h9 => h9) rfl dX0_take_40 ?_
                    refine lv_iload hx hb dX0_take_43 (lv_at hl 2 rfl) ?_
                    refine lv_iload hx hb dX0_take_45 (lv_at hl 1 rfl) ?_
                    refine lv_iload hx hb dX0_take_47 (lv_at hl 0 rfl) ?_
                    refine eRi (va_runV (As := [.int (nI j1), .int (nI j2), .int (nI j3)]) (rest := []) ⟨hx, hb, hml, hown, hts⟩ (c_X4_rivetAt_g l D cI cB cZ cJ tx a sn sk scu sch_j3 j1 j2 j3 (lf_X0_take_16 a dm d0 d1 d2 sn sk scu sch g0 g1 g3 x1 n2 n3 n4 hdm hx1 hsn hsk j1 y3_a25 y3_a26 y3_a27 sch_j1 k3 hj3 hk3 c_1 n_4 j2 y18_a25 y18_a26 y18_a27 sch_j2 k18 hj18 hk18 c_6 n_9 j3 y33_a25 y33_a26 y33_a27 sch_j3 k33 hj33 hk33 c_11 n_14) (lf_X0_take_17 a dm d0 d1 d2 sn sk scu sch g0 g1 g3 x1 n2 n3 n4 hdm hx1 hsn hsk j1 y3_a25 y3_a26 y3_a27 sch_j1 k3 hj3 hk3 c_1 n_4 j2 y18_a25 y18_a26 y18_a27 sch_j2 k18 hj18 hk18 c_6 n_9 j3 y33_a25 y33_a26 y33_a27 sch_j3 k33 hj33 hk33 c_11 n_14) (lf_X0_take_18 a dm d0 d1 d2 sn sk scu sch g0 g1 g3 x1 n2 n3 n4 hdm hx1 hsn hsk j1 y3_a25 y3_a26 y3_a27 sch_j1 k3 hj3 hk3 c_1 n_4 j2 y18_a25 y18_a26 y18_a27 sch_j2 k18 hj18 hk18 c_6 n_9 j3 y33_a25 y33_a26 y33_a27 sch_j3 k33 hj33 hk33 c_11 n_14) (lf_X0_take_19 a dm d0 d1 d2 sn sk scu sch g0 g1 g3 x1 n2 n3 n4 hdm hx1 hsn hsk j1 y3_a25 y3_a26 y3_a27 sch_j1 k3 hj3 hk3 c_1 n_4 j2 y18_a25 y18_a26 y18_a27 sch_j2 k18 hj18 hk18 c_6 n_9 j3 y33_a25 y33_a26 y33_a27 sch_j3 k33 hj33 hk33 c_11 n_14) (lf_X0_take_20 a dm d0 d1 d2 sn sk scu sch g0 g1 g3 x1 n2 n3 n4 hdm hx1 hsn hsk j1 y3_a25 y3_a26 y3_a27 sch_j1 k3 hj3 hk3 c_1 n_4 j2 y18_a25 y18_a26 y18_a27 sch_j2 k18 hj18 hk18 c_6 n_9 j3 y33_a25 y33_a26 y33_a27 sch_j3 k33 hj33 hk33 c_11 n_14) H.size) (zV hts k_916 v_X4_rivetAt ⟨Nat.le_of_ble_eq_true rfl, Nat.le_of_ble_eq_true rfl⟩) (pV (px1 hK hP 4 rfl) hK hP 4 rfl rfl) rfl rfl hl.1 rfl (lv_room (Nat.le_of_ble_eq_true rfl)) dX0_take_49 ⟨Nat.le_of_ble_eq_true rfl, Nat.le_of_ble_eq_true rfl⟩) hP hS hA (fun r_21 H locs wr_21 hP hS => ?_)
                    subst wr_21
                    refine lv_istore (lv' := [(8, .int (nI ((j1 * 8 + j2) * 2 + j3))), (7, .int (nI j3)), (6, .int (nI j2)), (5, .int (nI j1)), (0, .ref (a 6)), (1, .int (nI x1)), (2, .int n2), (3, .int n3), (4, .int n4)]) hx hb dX0_take_52 hl (by decide) rfl (fun ls hl => ?_)
                    refine lv_iload hx hb dX0_take_54 (lv_at hl 0 rfl) ?_
                    refine lv_if_lt (tgt := 127) hx hb dX0_take_56 (by decide) (fun c => absurd c (lf_X0_take_22 a dm d0 d1 d2 sn sk scu sch g0 g1 g3 x1 n2 n3 n4 hdm hx1 hsn hsk j1 y3_a25 y3_a26 y3_a27 sch_j1 k3 hj3 hk3 c_1 n_4 j2 y18_a25 y18_a26 y18_a27 sch_j2 k18 hj18 hk18 c_6 n_9 j3 y33_a25 y33_a26 y33_a27 sch_j3 k33 hj33 hk33 c_11 n_14)) (fun _ => ?_)
                    refine lv_aload_n hx hb dX0_take_59 rfl (lv_at hl 4 rfl) ?_
                    refine va_get (D := D) (ci := 0) (v := .ref (a 5)) (C := RX0) (T := TX0) (N := 7) hx hb hts inT_X0 hown hK.1 hP 0 rfl rfl 0 (by decide) (hts _ k_294) (fun _ h9 => h9) rfl dX0_take_60 ?_
                    refine lv_iload hx hb dX0_take_63 (lv_at hl 0 rfl) ?_
                    refine lv_iload hx hb dX0_take_65 (lv_at hl 3 rfl) ?_
                    refine eRi (va_runV (As := [.int (nI ((j1 * 8 + j2) * 2 + j3)), .int (nI j1)]) (rest := []) ⟨hx, hb, hml, hown, hts⟩ (c_X4_isSeen l D cI cB cZ cJ tx a sn sk scu sch_j3 g3 ((j1 * 8 + j2) * 2 + j3) (nI j1) (lf_X0_take_23 a dm d0 d1 d2 sn sk scu sch g0 g1 g3 x1 n2 n3 n4 hdm hx1 hsn hsk j1 y3_a25 y3_a26 y3_a27 sch_j1 k3 hj3 hk3 c_1 n_4 j2 y18_a25 y18_a26 y18_a27 sch_j2 k18 hj18 hk18 c_6 n_9 j3 y33_a25 y33_a26 y33_a27 sch_j3 k33 hj33 hk33 c_11 n_14) H.size) (zV hts k_917 v_X4_isSeen ⟨Nat.le_of_ble_eq_true rfl, Nat.le_of_ble_eq_true rfl⟩) (pV (pxS hK hP hD [4, 7] (by decide) rfl) hK hP 4 rfl rfl) rfl rfl hl.1 rfl (lv_room (Nat.le_of_ble_eq_true rfl)) dX0_take_67 ⟨Nat.le_of_ble_eq_true rfl, Nat.le_of_ble_eq_true rfl⟩) hP hS hA (fun r_24 H locs wr_24 hP hS => ?_)
                    refine lv_if_eq (tgt := 127) hx hb dX0_take_70 (by decide) (fun c_25 => ?_) (fun c_25 => ?_)
                    · refine lv_iinc (v := nI (j3 + 1)) (lv' := [(7, .int (nI (j3 + 1))), (8, .int (nI ((j1 * 8 + j2) * 2 + j3))), (6, .int (nI j2)), (5, .int (nI j1)), (0, .ref (a 6)), (1, .int (nI x1)), (2, .int n2), (3, .int n3), (4, .int n4)]) hx hb dX0_take_127 hl (k := 1) rfl (nI_1 j3) (by decide) rfl (fun ls hl => ?_)
                      refine lv_goto (tgt := 33) hx hb dX0_take_130 (by decide) ?_
                      exact ih33 (j3 + 1) y33_a25 y33_a26 y33_a27 sch_j3 H locs ls (by omega) (by omega)  (hP.sub [0, 1, 2, 3, 4, 5, 6, 7] rfl) (hD.sub [0, 1, 2, 3, 4, 5, 6, 7] (by decide) rfl) hS (lv_sub hl [0, 2, 3, 4, 5, 6, 7, 8] rfl)
                    · refine lv_aload_n hx hb dX0_take_73 rfl (lv_at hl 4 rfl) ?_
                      refine va_get (D := D) (ci := 0) (v := .ref (a 5)) (C := RX0) (T := TX0) (N := 7) hx hb hts inT_X0 hown hK.1 hP 0 rfl rfl 0 (by decide) (hts _ k_294) (fun _ h9 => h9) rfl dX0_take_74 ?_
                      refine eWi (wr := [(a 6, .inr (0, [.ref (a 5), .ref (a 25), .ref (a 26), .ref (a 27), .ref (a 28), .ref (a 29), .int (nI dm)])), (a 25, .inl (cI, 1536, .inl y33_a25)), (a 26, .inl (cI, 1536, .inl y33_a26)), (a 27, .inl (cZ, 1536, .inl y33_a27)), (a 18, .inl (cI, 384, .inl g0)), (a 19, .inl (cI, 384, .inl g1)), (a 21, .inl (cZ, 384, .inl g3))]) (va_runV (As := []) (rest := []) ⟨hx, hb, hml, hown, hts⟩ (c_X4_luck l D cI cB cZ cJ tx a sn sk scu sch_j3 H.size) (zV hts k_918 v_X4_luck ⟨Nat.le_of_ble_eq_true rfl, Nat.le_of_ble_eq_true rfl⟩) (pV (pxS hK hP hD [4] (by decide) rfl) hK hP 4 rfl rfl) rfl rfl hl.1 rfl (lv_room (Nat.le_of_ble_eq_true rfl)) dX0_take_77 ⟨Nat.le_of_ble_eq_true rfl, Nat.le_of_ble_eq_true rfl⟩) hP hD hS hA [4] [0, 1, 2, 3, 5, 6, 7] rfl rfl (by decide) (by decide) (fun r_26 u_27 H locs wr_26 hP hD hS => ?_)
                      obtain ⟨sch_27, rfl⟩ : ∃ z, z = u_27 := ⟨_, rfl⟩
                      have hP : va_P D vwCl [(a 6, .inr (0, [.ref (a 5), .ref (a 25), .ref (a 26), .ref (a 27), .ref (a 28), .ref (a 29), .int (nI dm)])), (a 25, .inl (cI, 1536, .inl y33_a25)), (a 26, .inl (cI, 1536, .inl y33_a26)), (a 27, .inl (cZ, 1536, .inl y33_a27)), (a 18, .inl (cI, 384, .inl g0)), (a 19, .inl (cI, 384, .inl g1)), (a 21, .inl (cZ, 384, .inl g3)), (a 5, .inr (4, [.ref (a 18), .ref (a 19), .ref (a 20), .ref (a 21), .ref (a 22), .ref (a 23), .ref (a 24), .int (nI sn), .int (nI sk), .int scu, .int sch_27]))] H := hP
                      have hD : va_D A [(a 6, .inr (0, [.ref (a 5), .ref (a 25), .ref (a 26), .ref (a 27), .ref (a 28), .ref (a 29), .int (nI dm)])), (a 25, .inl (cI, 1536, .inl y33_a25)), (a 26, .inl (cI, 1536, .inl y33_a26)), (a 27, .inl (cZ, 1536, .inl y33_a27)), (a 18, .inl (cI, 384, .inl g0)), (a 19, .inl (cI, 384, .inl g1)), (a 21, .inl (cZ, 384, .inl g3)), (a 5, .inr (4, [.ref (a 18), .ref (a 19), .ref (a 20), .ref (a 21), .ref (a 22), .ref (a 23), .ref (a 24), .int (nI sn), .int (nI sk), .int scu, .int sch_27]))] := hD
                      refine lv_iload hx hb dX0_take_80 (lv_at hl 8 rfl) ?_
                      refine lv_icmp_ge (tgt := 90) hx hb dX0_take_82 (by decide) (fun c_28 => ?_) (fun c_28 => ?_)
                      · refine lv_iconst (v := 0) hx hb dX0_take_90 (by decide) ?_
                        refine lv_istore (lv' := [(9, .int 0), (8, .int (nI ((j1 * 8 + j2) * 2 + j3))), (7, .int (nI j3)), (6, .int (nI j2)), (5, .int (nI j1)), (0, .ref (a 6)), (1, .int (nI x1)), (2, .int n2), (3, .int n3), (4, .int n4)]) hx hb dX0_take_91 hl (by decide) rfl (fun ls hl => ?_)
                        refine lv_aload_n hx hb dX0_take_93 rfl (lv_at hl 5 rfl) ?_
                        refine lv_iload_n hx hb dX0_take_94 rfl (lv_at hl 6 rfl) ?_
                        refine lv_iload hx hb dX0_take_95 (lv_at hl 1 rfl) ?_
                        refine lv_aload_n hx hb dX0_take_97 rfl (lv_at hl 5 rfl) ?_
                        refine va_get (D := D) (ci := 0) (v := .ref (a 5)) (C := RX0) (T := TX0) (N := 7) hx hb hts inT_X0 hown hK.1 hP 0 rfl rfl 0 (by decide) (hts _ k_294) (fun _ h9 => h9) rfl dX0_take_98 ?_
                        refine va_getN (D := D) (ci := 4) (v := .ref (a 18)) (C := RX4) (T := TX4) (N := 11) hx hb hts inT_X4 hown hK.1 hP 7 rfl rfl 0 (by decide) (va_Nw.use rfl (hK.2.2.1 _ n_233)) (fun _ h9 => h9) rfl dX0_take_101 ?_
                        refine lv_iload hx hb dX0_take_104 (lv_at hl 1 rfl) ?_
                        refine ld_i hx hb hK hP 4 rfl (lf_X0_take_29 a dm d0 d1 d2 sn sk scu sch g0 g1 g3 x1 n2 n3 n4 hdm hx1 hsn hsk j1 y3_a25 y3_a26 y3_a27 sch_j1 k3 hj3 hk3 c_1 n_4 j2 y18_a25 y18_a26 y18_a27 sch_j2 k18 hj18 hk18 c_6 n_9 j3 y33_a25 y33_a26 y33_a27 sch_j3 k33 hj33 hk33 c_11 n_14 r_24 c_25 sch_27 r_26 c_28) dX0_take_106 (fun x_30 => ?_)
                        refine lv_iload_n hx hb dX0_take_107 rfl (lv_at hl 7 rfl) ?_
                        refine lv_iadd hx hb dX0_take_108 ?_
                        refine lv_topi (fun x_31 ex_31 => ?_)
                        refine lv_iload hx hb dX0_take_109 (lv_at hl 0 rfl) ?_
                        refine lv_iadd hx hb dX0_take_111 ?_
                        refine lv_topi (fun x_32 ex_32 => ?_)
                        refine lv_aload_n hx hb dX0_take_112 rfl (lv_at hl 5 rfl) ?_
                        refine va_get (D := D) (ci := 0) (v := .ref (a 5)) (C := RX0) (T := TX0) (N := 7) hx hb hts inT_X0 hown hK.1 hP 0 rfl rfl 0 (by decide) (hts _ k_294) (fun _ h9 => h9) rfl dX0_take_113 ?_
                        refine va_getN (D := D) (ci := 4) (v := .ref (a 19)) (C := RX4) (T := TX4) (N := 11) hx hb hts inT_X4 hown hK.1 hP 7 rfl rfl 1 (by decide) (va_Nw.use rfl (hK.2.2.1 _ n_236)) (fun _ h9 => h9) rfl dX0_take_116 ?_
                        refine lv_iload hx hb dX0_take_119 (lv_at hl 1 rfl) ?_
                        refine ld_i hx hb hK hP 5 rfl (lf_X0_take_33 a dm d0 d1 d2 sn sk scu sch g0 g1 g3 x1 n2 n3 n4 hdm hx1 hsn hsk j1 y3_a25 y3_a26 y3_a27 sch_j1 k3 hj3 hk3 c_1 n_4 j2 y18_a25 y18_a26 y18_a27 sch_j2 k18 hj18 hk18 c_6 n_9 j3 y33_a25 y33_a26 y33_a27 sch_j3 k33 hj33 hk33 c_11 n_14 r_24 c_25 sch_27 r_26 c_28 x_30 x_31 ex_31 x_32 ex_32) dX0_take_121 (fun x_34 => ?_)
                        refine lv_iload_n hx hb dX0_take_122 rfl (lv_at hl 8 rfl) ?_
                        refine lv_iadd hx hb dX0_take_123 ?_
                        refine lv_topi (fun x_35 ex_35 => ?_)
                        refine eWv (wr := [(a 18, .inl (cI, 384, .inl g0)), (a 19, .inl (cI, 384, .inl g1)), (a 21, .inl (cZ, 384, .inl g3)), (a 5, .inr (4, [.ref (a 18), .ref (a 19), .ref (a 20), .ref (a 21), .ref (a 22), .ref (a 23), .ref (a 24), .int (nI sn), .int (nI sk), .int scu, .int sch_27]))]) (va_runV (As := [.int (nI x1), .int (nI ((j1 * 8 + j2) * 2 + j3)), .int x_32, .int x_35]) (rest := []) ⟨hx, hb, hml, hown, hts⟩ (c_X0_put l D cI cB cZ cJ tx a dm y33_a25 y33_a26 y33_a27 x1 ((j1 * 8 + j2) * 2 + j3) x_32 x_35 (lf_X0_take_36 a dm d0 d1 d2 sn sk scu sch g0 g1 g3 x1 n2 n3 n4 hdm hx1 hsn hsk j1 y3_a25 y3_a26 y3_a27 sch_j1 k3 hj3 hk3 c_1 n_4 j2 y18_a25 y18_a26 y18_a27 sch_j2 k18 hj18 hk18 c_6 n_9 j3 y33_a25 y33_a26 y33_a27 sch_j3 k33 hj33 hk33 c_11 n_14 r_24 c_25 sch_27 r_26 c_28 x_30 x_31 ex_31 x_32 ex_32 x_34 x_35 ex_35) (lf_X0_take_37 a dm d0 d1 d2 sn sk scu sch g0 g1 g3 x1 n2 n3 n4 hdm hx1 hsn hsk j1 y3_a25 y3_a26 y3_a27 sch_j1 k3 hj3 hk3 c_1 n_4 j2 y18_a25 y18_a26 y18_a27 sch_j2 k18 hj18 hk18 c_6 n_9 j3 y33_a25 y33_a26 y33_a27 sch_j3 k33 hj33 hk33 c_11 n_14 r_24 c_25 sch_27 r_26 c_28 x_30 x_31 ex_31 x_32 ex_32 x_34 x_35 ex_35) H.size) (zV hts k_919 v_X0_put ⟨Nat.le_of_ble_eq_true rfl, Nat.le_of_ble_eq_true rfl⟩) (pV (pxS hK hP hD [0, 1, 2, 3] (by decide) rfl) hK hP 0 rfl rfl) rfl rfl hl.1 rfl (lv_room (Nat.le_of_ble_eq_true rfl)) dX0_take_124 ⟨Nat.le_of_ble_eq_true rfl, Nat.le_of_ble_eq_true rfl⟩) hP hD hS hA [0, 1, 2, 3] [4, 5, 6, 7] rfl rfl (by decide) (by decide) (fun u_39 H locs wr_38 hP hD hS => ?_)
                        obtain ⟨d0_39, d1_39, d2_39⟩ := u_39
                        have hP : va_P D vwCl [(a 18, .inl (cI, 384, .inl g0)), (a 19, .inl (cI, 384, .inl g1)), (a 21, .inl (cZ, 384, .inl g3)), (a 5, .inr (4, [.ref (a 18), .ref (a 19), .ref (a 20), .ref (a 21), .ref (a 22), .ref (a 23), .ref (a 24), .int (nI sn), .int (nI sk), .int scu, .int sch_27])), (a 6, .inr (0, [.ref (a 5), .ref (a 25), .ref (a 26), .ref (a 27), .ref (a 28), .ref (a 29), .int (nI dm)])), (a 25, .inl (cI, 1536, .inl d0_39)), (a 26, .inl (cI, 1536, .inl d1_39)), (a 27, .inl (cZ, 1536, .inl d2_39))] H := hP
                        have hD : va_D A [(a 18, .inl (cI, 384, .inl g0)), (a 19, .inl (cI, 384, .inl g1)), (a 21, .inl (cZ, 384, .inl g3)), (a 5, .inr (4, [.ref (a 18), .ref (a 19), .ref (a 20), .ref (a 21), .ref (a 22), .ref (a 23), .ref (a 24), .int (nI sn), .int (nI sk), .int scu, .int sch_27])), (a 6, .inr (0, [.ref (a 5), .ref (a 25), .ref (a 26), .ref (a 27), .ref (a 28), .ref (a 29), .int (nI dm)])), (a 25, .inl (cI, 1536, .inl d0_39)), (a 26, .inl (cI, 1536, .inl d1_39)), (a 27, .inl (cZ, 1536, .inl d2_39))] := hD
                        refine lv_iinc (v := nI (j3 + 1)) (lv' := [(7, .int (nI (j3 + 1))), (9, .int 0), (8, .int (nI ((j1 * 8 + j2) * 2 + j3))), (6, .int (nI j2)), (5, .int (nI j1)), (0, .ref (a 6)), (1, .int (nI x1)), (2, .int n2), (3, .int n3), (4, .int n4)]) hx hb dX0_take_127 hl (k := 2) rfl (nI_1 j3) (by decide) rfl (fun ls hl => ?_)
                        refine lv_goto (tgt := 33) hx hb dX0_take_130 (by decide) ?_
                        exact ih33 (j3 + 1) d0_39 d1_39 d2_39 sch_27 H locs ls (by omega) (by omega)  (hP.sub [4, 5, 6, 7, 3, 0, 1, 2] rfl) (hD.sub [4, 5, 6, 7, 3, 0, 1, 2] (by decide) rfl) hS (lv_sub hl [0, 3, 4, 5, 6, 7, 8, 9] rfl)
                      · refine lv_bipush (v := 50) hx hb dX0_take_85 (by decide) ?_
                        refine lv_goto (tgt := 91) hx hb dX0_take_87 (by decide) ?_
                        refine lv_istore (lv' := [(9, .int 50), (8, .int (nI ((j1 * 8 + j2) * 2 + j3))), (7, .int (nI j3)), (6, .int (nI j2)), (5, .int (nI j1)), (0, .ref (a 6)), (1, .int (nI x1)), (2, .int n2), (3, .int n3), (4, .int n4)]) hx hb dX0_take_91 hl (by decide) rfl (fun ls hl => ?_)
                        refine lv_aload_n hx hb dX0_take_93 rfl (lv_at hl 5 rfl) ?_
                        refine lv_iload_n hx hb dX0_take_94 rfl (lv_at hl 6 rfl) ?_
                        refine lv_iload hx hb dX0_take_95 (lv_at hl 1 rfl) ?_
                        refine lv_aload_n hx hb dX0_take_97 rfl (lv_at hl 5 rfl) ?_
                        refine va_get (D := D) (ci := 0) (v := .ref (a 5)) (C := RX0) (T := TX0) (N := 7) hx hb hts inT_X0 hown hK.1 hP 0 rfl rfl 0 (by decide) (hts _ k_294) (fun _ h9 => h9) rfl dX0_take_98 ?_
                        refine va_getN (D := D) (ci := 4) (v := .ref (a 18)) (C := RX4) (T := TX4) (N := 11) hx hb hts inT_X4 hown hK.1 hP 7 rfl rfl 0 (by decide) (va_Nw.use rfl (hK.2.2.1 _ n_233)) (fun _ h9 => h9) rfl dX0_take_101 ?_
                        refine lv_iload hx hb dX0_take_104 (lv_at hl 1 rfl) ?_
                        refine ld_i hx hb hK hP 4 rfl (lf_X0_take_40 a dm d0 d1 d2 sn sk scu sch g0 g1 g3 x1 n2 n3 n4 hdm hx1 hsn hsk j1 y3_a25 y3_a26 y3_a27 sch_j1 k3 hj3 hk3 c_1 n_4 j2 y18_a25 y18_a26 y18_a27 sch_j2 k18 hj18 hk18 c_6 n_9 j3 y33_a25 y33_a26 y33_a27 sch_j3 k33 hj33 hk33 c_11 n_14 r_24 c_25 sch_27 r_26 c_28) dX0_take_106 (fun x_41 => ?_)
                        refine lv_iload_n hx hb dX0_take_107 rfl (lv_at hl 7 rfl) ?_
                        refine lv_iadd hx hb dX0_take_108 ?_
                        refine lv_topi (fun x_42 ex_42 => ?_)
                        refine lv_iload hx hb dX0_take_109 (lv_at hl 0 rfl) ?_
                        refine lv_iadd hx hb dX0_take_111 ?_
                        refine lv_topi (fun x_43 ex_43 => ?_)
                        refine lv_aload_n hx hb dX0_take_112 rfl (lv_at hl 5 rfl) ?_
                        refine va_get (D := D) (ci := 0) (v := .ref (a 5)) (C := RX0) (T := TX0) (N := 7) hx hb hts inT_X0 hown hK.1 hP 0 rfl rfl 0 (by decide) (hts _ k_294) (fun _ h9 => h9) rfl dX0_take_113 ?_
                        refine va_getN (D := D) (ci := 4) (v := .ref (a 19)) (C := RX4) (T := TX4) (N := 11) hx hb hts inT_X4 hown hK.1 hP 7 rfl rfl 1 (by decide) (va_Nw.use rfl (hK.2.2.1 _ n_236)) (fun _ h9 => h9) rfl dX0_take_116 ?_
                        refine lv_iload hx hb dX0_take_119 (lv_at hl 1 rfl) ?_
                        refine ld_i hx hb hK hP 5 rfl (lf_X0_take_44 a dm d0 d1 d2 sn sk scu sch g0 g1 g3 x1 n2 n3 n4 hdm hx1 hsn hsk j1 y3_a25 y3_a26 y3_a27 sch_j1 k3 hj3 hk3 c_1 n_4 j2 y18_a25 y18_a26 y18_a27 sch_j2 k18 hj18 hk18 c_6 n_9 j3 y33_a25 y33_a26 y33_a27 sch_j3 k33 hj33 hk33 c_11 n_14 r_24 c_25 sch_27 r_26 c_28 x_41 x_42 ex_42 x_43 ex_43) dX0_take_121 (fun x_45 => ?_)
                        refine lv_iload_n hx hb dX0_take_122 rfl (lv_at hl 8 rfl) ?_
                        refine lv_iadd hx hb dX0_take_123 ?_
                        refine lv_topi (fun x_46 ex_46 => ?_)
                        refine eWv (wr := [(a 18, .inl (cI, 384, .inl g0)), (a 19, .inl (cI, 384, .inl g1)), (a 21, .inl (cZ, 384, .inl g3)), (a 5, .inr (4, [.ref (a 18), .ref (a 19), .ref (a 20), .ref (a 21), .ref (a 22), .ref (a 23), .ref (a 24), .int (nI sn), .int (nI sk), .int scu, .int sch_27]))]) (va_runV (As := [.int (nI x1), .int (nI ((j1 * 8 + j2) * 2 + j3)), .int x_43, .int x_46]) (rest := []) ⟨hx, hb, hml, hown, hts⟩ (c_X0_put l D cI cB cZ cJ tx a dm y33_a25 y33_a26 y33_a27 x1 ((j1 * 8 + j2) * 2 + j3) x_43 x_46 (lf_X0_take_47 a dm d0 d1 d2 sn sk scu sch g0 g1 g3 x1 n2 n3 n4 hdm hx1 hsn hsk j1 y3_a25 y3_a26 y3_a27 sch_j1 k3 hj3 hk3 c_1 n_4 j2 y18_a25 y18_a26 y18_a27 sch_j2 k18 hj18 hk18 c_6 n_9 j3 y33_a25 y33_a26 y33_a27 sch_j3 k33 hj33 hk33 c_11 n_14 r_24 c_25 sch_27 r_26 c_28 x_41 x_42 ex_42 x_43 ex_43 x_45 x_46 ex_46) (lf_X0_take_48 a dm d0 d1 d2 sn sk scu sch g0 g1 g3 x1 n2 n3 n4 hdm hx1 hsn hsk j1 y3_a25 y3_a26 y3_a27 sch_j1 k3 hj3 hk3 c_1 n_4 j2 y18_a25 y18_a26 y18_a27 sch_j2 k18 hj18 hk18 c_6 n_9 j3 y33_a25 y33_a26 y33_a27 sch_j3 k33 hj33 hk33 c_11 n_14 r_24 c_25 sch_27 r_26 c_28 x_41 x_42 ex_42 x_43 ex_43 x_45 x_46 ex_46) H.size) (zV hts k_919 v_X0_put ⟨Nat.le_of_ble_eq_true rfl, Nat.le_of_ble_eq_true rfl⟩) (pV (pxS hK hP hD [0, 1, 2, 3] (by decide) rfl) hK hP 0 rfl rfl) rfl rfl hl.1 rfl (lv_room (Nat.le_of_ble_eq_true rfl)) dX0_take_124 ⟨Nat.le_of_ble_eq_true rfl, Nat.le_of_ble_eq_true rfl⟩) hP hD hS hA [0, 1, 2, 3] [4, 5, 6, 7] rfl rfl (by decide) (by decide) (fun u_50 H locs wr_49 hP hD hS => ?_)
                        obtain ⟨d0_50, d1_50, d2_50⟩ := u_50
                        have hP : va_P D vwCl [(a 18, .inl (cI, 384, .inl g0)), (a 19, .inl (cI, 384, .inl g1)), (a 21, .inl (cZ, 384, .inl g3)), (a 5, .inr (4, [.ref (a 18), .ref (a 19), .ref (a 20), .ref (a 21), .ref (a 22), .ref (a 23), .ref (a 24), .int (nI sn), .int (nI sk), .int scu, .int sch_27])), (a 6, .inr (0, [.ref (a 5), .ref (a 25), .ref (a 26), .ref (a 27), .ref (a 28), .ref (a 29), .int (nI dm)])), (a 25, .inl (cI, 1536, .inl d0_50)), (a 26, .inl (cI, 1536, .inl d1_50)), (a 27, .inl (cZ, 1536, .inl d2_50))] H := hP
                        have hD : va_D A [(a 18, .inl (cI, 384, .inl g0)), (a 19, .inl (cI, 384, .inl g1)), (a 21, .inl (cZ, 384, .inl g3)), (a 5, .inr (4, [.ref (a 18), .ref (a 19), .ref (a 20), .ref (a 21), .ref (a 22), .ref (a 23), .ref (a 24), .int (nI sn), .int (nI sk), .int scu, .int sch_27])), (a 6, .inr (0, [.ref (a 5), .ref (a 25), .ref (a 26), .ref (a 27), .ref (a 28), .ref (a 29), .int (nI dm)])), (a 25, .inl (cI, 1536, .inl d0_50)), (a 26, .inl (cI, 1536, .inl d1_50)), (a 27, .inl (cZ, 1536, .inl d2_50))] := hD
                        refine lv_iinc (v := nI (j3 + 1)) (lv' := [(7, .int (nI (j3 + 1))), (9, .int 50), (8, .int (nI ((j1 * 8 + j2) * 2 + j3))), (6, .int (nI j2)), (5, .int (nI j1)), (0, .ref (a 6)), (1, .int (nI x1)), (2, .int n2), (3, .int n3), (4, .int n4)]) hx hb dX0_take_127 hl (k := 2) rfl (nI_1 j3) (by decide) rfl (fun ls hl => ?_)
                        refine lv_goto (tgt := 33) hx hb dX0_take_130 (by decide) ?_
                        exact ih33 (j3 + 1) d0_50 d1_50 d2_50 sch_27 H locs ls (by omega) (by omega)  (hP.sub [4, 5, 6, 7, 3, 0, 1, 2] rfl) (hD.sub [4, 5, 6, 7, 3, 0, 1, 2] (by decide) rfl) hS (lv_sub hl [0, 3, 4, 5, 6, 7, 8, 9] rfl)
              exact lp33 (2 + 1) 0 y18_a25 y18_a26 y18_a27 sch_j2 H locs ls (by omega) (by omega)  (hP.sub [0, 1, 2, 3, 4, 5, 6, 7] rfl) (hD.sub [0, 1, 2, 3, 4, 5, 6, 7] (by decide) rfl) hS (lv_sub hl [0, 1, 2, 3, 4, 5, 6, 7] rfl)
        exact lp18 (sk + 1) 0 y3_a25 y3_a26 y3_a27 sch_j1 H locs ls (by omega) (by omega)  (hP.sub [0, 1, 2, 3, 4, 5, 6, 7] rfl) (hD.sub [0, 1, 2, 3, 4, 5, 6, 7] (by decide) rfl) hS (lv_sub hl [0, 1, 2, 3, 4, 5, 6] rfl)
  exact lp3 (sn + 1) 0 d0 d1 d2 sch H locs ls (by omega) (by omega)  (hP.sub [0, 1, 2, 3, 4, 5, 6, 7] rfl) (hD.sub [0, 1, 2, 3, 4, 5, 6, 7] (by decide) rfl) hS (lv_sub hl [0, 1, 2, 3, 4, 5] rfl)

theorem lf_X4_stands_3 (a : Nat → Nat) (sn : Nat) (sk : Nat) (scu : Int32) (sch : Int32) (hsn : sn ≤ 24) (hsk : sk ≤ 8) (c_1 : nI sn ≤ 0) : sn ≤ 0 := by
  exact (nI_leI (a := sn) (b := 0) (by omega) (by omega)).mp c_1
theorem lf_X4_stands_4 (a : Nat → Nat) (sn : Nat) (sk : Nat) (scu : Int32) (sch : Int32) (hsn : sn ≤ 24) (hsk : sk ≤ 8) (c_1 : nI sn ≤ 0) (n_2 : sn ≤ 0) : ((0 : Int32) = 0 ∧ sn = 0) ∨ ((0 : Int32) = 1 ∧ 0 < sn) := by
  first | exact Or.inl ⟨rfl, by omega⟩ | exact Or.inr ⟨rfl, by omega⟩
theorem lf_X4_stands_6 (a : Nat → Nat) (sn : Nat) (sk : Nat) (scu : Int32) (sch : Int32) (hsn : sn ≤ 24) (hsk : sk ≤ 8) (c_1 : ¬ nI sn ≤ 0) : 0 < sn := by
  exact Nat.lt_of_not_le (fun q => c_1 ((nI_leI (a := sn) (b := 0) (by omega) (by omega)).mpr q))
theorem lf_X4_stands_7 (a : Nat → Nat) (sn : Nat) (sk : Nat) (scu : Int32) (sch : Int32) (hsn : sn ≤ 24) (hsk : sk ≤ 8) (c_1 : ¬ nI sn ≤ 0) (n_5 : 0 < sn) : ((1 : Int32) = 0 ∧ sn = 0) ∨ ((1 : Int32) = 1 ∧ 0 < sn) := by
  first | exact Or.inl ⟨rfl, by omega⟩ | exact Or.inr ⟨rfl, by omega⟩
set_option maxHeartbeats 4000000 in
set_option maxRecDepth 100000 in
theorem c_X4_stands (l : Launch) (D : va_G) (cI cB cZ cJ : ClassId) (tx : List (ClassId × FieldType)) (a : Nat → Nat) (sn : Nat) (sk : Nat) (scu : Int32) (sch : Int32) (hsn : sn ≤ 24) (hsk : sk ≤ 8) : RdI l D cI cB cZ cJ tx yX4_stands cX4_stands 1 (some .boolean) 0 [.ref (a 5)] [(a 5, .inr (4, [.ref (a 18), .ref (a 19), .ref (a 20), .ref (a 21), .ref (a 22), .ref (a 23), .ref (a 24), .int (nI sn), .int (nI sk), .int scu, .int sch]))] (fun r => (r = 0 ∧ sn = 0) ∨ (r = 1 ∧ 0 < sn)) := by
  refine rdi_of2 (by decide) (Nat.le_of_ble_eq_true rfl) ?_
  intro p e s m below meth c A ls H locs hC hK hP hD hA hS hl
  obtain ⟨hx, hb, hr, hml, hown, hts, hlocks, hin⟩ := hC
  have hown : s.vm.findClass RX4 = some m.cls := hown
  have hl : lv_has ls 1 [(0, .ref (a 5))] := hl
  refine lv_aload_n hx hb dX4_stands_0 rfl (lv_at hl 0 rfl) ?_
  refine va_get (D := D) (ci := 4) (v := .int (nI sn)) (C := RX4) (T := TX4) (N := 11) hx hb hts inT_X4 hown hK.1 hP 0 rfl rfl 7 (by decide) (hts _ k_248) (fun _ h9 => h9) rfl dX4_stands_1 ?_
  refine lv_if_le (tgt := 11) hx hb dX4_stands_4 (by decide) (fun c_1 => ?_) (fun c_1 => ?_)
  · have n_2 : sn ≤ 0 := (lf_X4_stands_3 a sn sk scu sch hsn hsk c_1)
    refine lv_iconst (v := 0) hx hb dX4_stands_11 (by decide) ?_
    exact W.zret (v := 0) hx hb hr (by decide) (fun tt9 ht hW => ⟨⟨(0 : Int32), (), rfl, (lf_X4_stands_4 a sn sk scu sch hsn hsk c_1 n_2), trivial⟩, hS.F ht⟩) hS.2.2 dX4_stands_12 hlocks
  · have n_5 : 0 < sn := (lf_X4_stands_6 a sn sk scu sch hsn hsk c_1)
    refine lv_iconst (v := 1) hx hb dX4_stands_7 (by decide) ?_
    refine lv_goto (tgt := 12) hx hb dX4_stands_8 (by decide) ?_
    exact W.zret (v := 1) hx hb hr (by decide) (fun tt9 ht hW => ⟨⟨(1 : Int32), (), rfl, (lf_X4_stands_7 a sn sk scu sch hsn hsk c_1 n_5), trivial⟩, hS.F ht⟩) hS.2.2 dX4_stands_12 hlocks

theorem lf_X4_rivetAt_a_3 (a : Nat → Nat) (sn : Nat) (sk : Nat) (scu : Int32) (sch : Int32) (n1 : Int32) (n2 : Int32) (n3 : Int32) (hsn : sn ≤ 24) (hsk : sk ≤ 8) (c_2 : ¬ ((0 : Int32) ≤ n1 ∧ n1 ≤ nI sn - 1)) : (((-1) : Int32) = -1) ∨ (∃ f s d : Nat, f < sn ∧ s < sk ∧ d < 2 ∧ n1 = nI f ∧ n2 = nI s ∧ n3 = nI d ∧ ((-1) : Int32) = nI ((f * 8 + s) * 2 + d)) := by
  first | exact Or.inl rfl | exact Or.inr ⟨_, _, _, by assumption, by assumption, by omega, by assumption, by assumption, by assumption, rfl⟩
theorem lf_X4_rivetAt_a_4 (a : Nat → Nat) (sn : Nat) (sk : Nat) (scu : Int32) (sch : Int32) (n1 : Int32) (n2 : Int32) (n3 : Int32) (hsn : sn ≤ 24) (hsk : sk ≤ 8) (c_2 : (0 : Int32) ≤ n1 ∧ n1 ≤ nI sn - 1) : sn < 2 ^ 31 := by
  omega
theorem lf_X4_rivetAt_a_7 (a : Nat → Nat) (sn : Nat) (sk : Nat) (scu : Int32) (sch : Int32) (n1 : Int32) (n2 : Int32) (n3 : Int32) (hsn : sn ≤ 24) (hsk : sk ≤ 8) (c_2 : (0 : Int32) ≤ n1 ∧ n1 ≤ nI sn - 1) (tn1 : Nat) (tn1a : tn1 < sn) (tn1e : n1 = nI tn1) (c_6 : ¬ ((0 : Int32) ≤ n2 ∧ n2 ≤ nI sk - 1)) : (((-1) : Int32) = -1) ∨ (∃ f s d : Nat, f < sn ∧ s < sk ∧ d < 2 ∧ n1 = nI f ∧ n2 = nI s ∧ n3 = nI d ∧ ((-1) : Int32) = nI ((f * 8 + s) * 2 + d)) := by
  first | exact Or.inl rfl | exact Or.inr ⟨_, _, _, by assumption, by assumption, by omega, by assumption, by assumption, by assumption, rfl⟩
theorem lf_X4_rivetAt_a_8 (a : Nat → Nat) (sn : Nat) (sk : Nat) (scu : Int32) (sch : Int32) (n1 : Int32) (n2 : Int32) (n3 : Int32) (hsn : sn ≤ 24) (hsk : sk ≤ 8) (c_2 : (0 : Int32) ≤ n1 ∧ n1 ≤ nI sn - 1) (tn1 : Nat) (tn1a : tn1 < sn) (tn1e : n1 = nI tn1) (c_6 : (0 : Int32) ≤ n2 ∧ n2 ≤ nI sk - 1) : sk < 2 ^ 31 := by
  omega
theorem lf_X4_rivetAt_a_11 (a : Nat → Nat) (sn : Nat) (sk : Nat) (scu : Int32) (sch : Int32) (n1 : Int32) (n2 : Int32) (n3 : Int32) (hsn : sn ≤ 24) (hsk : sk ≤ 8) (c_2 : (0 : Int32) ≤ n1 ∧ n1 ≤ nI sn - 1) (tn1 : Nat) (tn1a : tn1 < sn) (tn1e : n1 = nI tn1) (c_6 : (0 : Int32) ≤ n2 ∧ n2 ≤ nI sk - 1) (tn2 : Nat) (tn2a : tn2 < sk) (tn2e : n2 = nI tn2) (c_10 : (0 : Int32) ≤ n3 ∧ n3 ≤ 1) (tn3 : Nat) (tn3a : 0 ≤ tn3) (tn3b : tn3 ≤ 1) (tn3e : n3 = nI tn3) : ((nI ((((tn1 * 8) + tn2) * 2) + tn3) : Int32) = -1) ∨ (∃ f s d : Nat, f < sn ∧ s < sk ∧ d < 2 ∧ n1 = nI f ∧ n2 = nI s ∧ n3 = nI d ∧ (nI ((((tn1 * 8) + tn2) * 2) + tn3) : Int32) = nI ((f * 8 + s) * 2 + d)) := by
  first | exact Or.inl rfl | exact Or.inr ⟨_, _, _, by assumption, by assumption, by omega, by assumption, by assumption, by assumption, rfl⟩
theorem lf_X4_rivetAt_a_12 (a : Nat → Nat) (sn : Nat) (sk : Nat) (scu : Int32) (sch : Int32) (n1 : Int32) (n2 : Int32) (n3 : Int32) (hsn : sn ≤ 24) (hsk : sk ≤ 8) (c_2 : (0 : Int32) ≤ n1 ∧ n1 ≤ nI sn - 1) (tn1 : Nat) (tn1a : tn1 < sn) (tn1e : n1 = nI tn1) (c_6 : (0 : Int32) ≤ n2 ∧ n2 ≤ nI sk - 1) (tn2 : Nat) (tn2a : tn2 < sk) (tn2e : n2 = nI tn2) (c_10 : ¬ ((0 : Int32) ≤ n3 ∧ n3 ≤ 1)) : (((-1) : Int32) = -1) ∨ (∃ f s d : Nat, f < sn ∧ s < sk ∧ d < 2 ∧ n1 = nI f ∧ n2 = nI s ∧ n3 = nI d ∧ ((-1) : Int32) = nI ((f * 8 + s) * 2 + d)) := by
  first | exact Or.inl rfl | exact Or.inr ⟨_, _, _, by assumption, by assumption, by omega, by assumption, by assumption, by assumption, rfl⟩
set_option maxHeartbeats 4000000 in
set_option maxRecDepth 100000 in
theorem c_X4_rivetAt_a (l : Launch) (D : va_G) (cI cB cZ cJ : ClassId) (tx : List (ClassId × FieldType)) (a : Nat → Nat) (sn : Nat) (sk : Nat) (scu : Int32) (sch : Int32) (n1 : Int32) (n2 : Int32) (n3 : Int32) (hsn : sn ≤ 24) (hsk : sk ≤ 8) : RdI l D cI cB cZ cJ tx yX4_rivetAt cX4_rivetAt 4 (some .int) 1 [.ref (a 5), .int n1, .int n2, .int n3] [(a 5, .inr (4, [.ref (a 18), .ref (a 19), .ref (a 20), .ref (a 21), .ref (a 22), .ref (a 23), .ref (a 24), .int (nI sn), .int (nI sk), .int scu, .int sch]))] (fun r => (r = -1) ∨ (∃ f s d : Nat, f < sn ∧ s < sk ∧ d < 2 ∧ n1 = nI f ∧ n2 = nI s ∧ n3 = nI d ∧ r = nI ((f * 8 + s) * 2 + d))) := by
  refine rdi_of2 (by decide) (Nat.le_of_ble_eq_true rfl) ?_
  intro p e s m below meth c A ls H locs hC hK hP hD hA hS hl
  obtain ⟨hx, hb, hr, hml, hown, hts, hlocks, hin⟩ := hC
  have hown : s.vm.findClass RX4 = some m.cls := hown
  have hl : lv_has ls 4 [(0, .ref (a 5)), (1, .int n1), (2, .int n2), (3, .int n3)] := hl
  refine lv_iload_n hx hb dX4_rivetAt_0 rfl (lv_at hl 1 rfl) ?_
  refine lv_iconst (v := 0) hx hb dX4_rivetAt_1 (by decide) ?_
  refine lv_aload_n hx hb dX4_rivetAt_2 rfl (lv_at hl 0 rfl) ?_
  refine va_get (D := D) (ci := 4) (v := .int (nI sn)) (C := RX4) (T := TX4) (N := 11) hx hb hts inT_X4 hown hK.1 hP 0 rfl rfl 7 (by decide) (hts _ k_248) (fun _ h9 => h9) rfl dX4_rivetAt_3 ?_
  refine lv_iconst (v := 1) hx hb dX4_rivetAt_6 (by decide) ?_
  refine lv_isub hx hb dX4_rivetAt_7 ?_
  refine eRi (va_runSN (As := [.int n1, .int 0, .int (nI sn - 1)]) (rest := []) ⟨hx, hb, hml, hown, hts⟩ (c_X11_within l D cI cB cZ cJ tx n1 0 (nI sn - 1) H.size) (zSN hts hK n_777 v_X11_within ⟨Nat.le_of_ble_eq_true rfl, Nat.le_of_ble_eq_true rfl⟩) (px0 hK) rfl rfl hl.1 rfl (lv_room (Nat.le_of_ble_eq_true rfl)) dX4_rivetAt_8 ⟨Nat.le_of_ble_eq_true rfl, Nat.le_of_ble_eq_true rfl⟩) hP hS hA (fun r_1 H locs wr_1 hP hS => ?_)
  subst wr_1
  refine lv_bi_eq (tgt := 37) hx hb dX4_rivetAt_11 (by decide) (fun c_2 => ?_) (fun c_2 => ?_)
  · refine lv_iconst (v := (-1)) hx hb dX4_rivetAt_37 (by decide) ?_
    exact W.iret (v := (-1)) hx hb hr (fun tt9 ht hW => ⟨⟨((-1) : Int32), (), rfl, (lf_X4_rivetAt_a_3 a sn sk scu sch n1 n2 n3 hsn hsk c_2), trivial⟩, hS.F ht⟩) hS.2.2 dX4_rivetAt_38 hlocks
  · obtain ⟨tn1, tn1a, tn1e⟩ := of_within (lf_X4_rivetAt_a_4 a sn sk scu sch n1 n2 n3 hsn hsk c_2) c_2
    subst tn1e
    refine lv_iload_n hx hb dX4_rivetAt_14 rfl (lv_at hl 2 rfl) ?_
    refine lv_iconst (v := 0) hx hb dX4_rivetAt_15 (by decide) ?_
    refine lv_aload_n hx hb dX4_rivetAt_16 rfl (lv_at hl 0 rfl) ?_
    refine va_get (D := D) (ci := 4) (v := .int (nI sk)) (C := RX4) (T := TX4) (N := 11) hx hb hts inT_X4 hown hK.1 hP 0 rfl rfl 8 (by decide) (hts _ k_257) (fun _ h9 => h9) rfl dX4_rivetAt_17 ?_
    refine lv_iconst (v := 1) hx hb dX4_rivetAt_20 (by decide) ?_
    refine lv_isub hx hb dX4_rivetAt_21 ?_
    refine eRi (va_runSN (As := [.int n2, .int 0, .int (nI sk - 1)]) (rest := []) ⟨hx, hb, hml, hown, hts⟩ (c_X11_within l D cI cB cZ cJ tx n2 0 (nI sk - 1) H.size) (zSN hts hK n_777 v_X11_within ⟨Nat.le_of_ble_eq_true rfl, Nat.le_of_ble_eq_true rfl⟩) (px0 hK) rfl rfl hl.1 rfl (lv_room (Nat.le_of_ble_eq_true rfl)) dX4_rivetAt_22 ⟨Nat.le_of_ble_eq_true rfl, Nat.le_of_ble_eq_true rfl⟩) hP hS hA (fun r_5 H locs wr_5 hP hS => ?_)
    subst wr_5
    refine lv_bi_eq (tgt := 37) hx hb dX4_rivetAt_25 (by decide) (fun c_6 => ?_) (fun c_6 => ?_)
    · refine lv_iconst (v := (-1)) hx hb dX4_rivetAt_37 (by decide) ?_
      exact W.iret (v := (-1)) hx hb hr (fun tt9 ht hW => ⟨⟨((-1) : Int32), (), rfl, (lf_X4_rivetAt_a_7 a sn sk scu sch (nI tn1) n2 n3 hsn hsk c_2 tn1 tn1a rfl c_6), trivial⟩, hS.F ht⟩) hS.2.2 dX4_rivetAt_38 hlocks
    · obtain ⟨tn2, tn2a, tn2e⟩ := of_within (lf_X4_rivetAt_a_8 a sn sk scu sch (nI tn1) n2 n3 hsn hsk c_2 tn1 tn1a rfl c_6) c_6
      subst tn2e
      refine lv_iload_n hx hb dX4_rivetAt_28 rfl (lv_at hl 3 rfl) ?_
      refine lv_iconst (v := 0) hx hb dX4_rivetAt_29 (by decide) ?_
      refine lv_iconst (v := 1) hx hb dX4_rivetAt_30 (by decide) ?_
      refine eRi (va_runSN (As := [.int n3, .int 0, .int 1]) (rest := []) ⟨hx, hb, hml, hown, hts⟩ (c_X11_within l D cI cB cZ cJ tx n3 0 1 H.size) (zSN hts hK n_777 v_X11_within ⟨Nat.le_of_ble_eq_true rfl, Nat.le_of_ble_eq_true rfl⟩) (px0 hK) rfl rfl hl.1 rfl (lv_room (Nat.le_of_ble_eq_true rfl)) dX4_rivetAt_31 ⟨Nat.le_of_ble_eq_true rfl, Nat.le_of_ble_eq_true rfl⟩) hP hS hA (fun r_9 H locs wr_9 hP hS => ?_)
      subst wr_9
      refine lv_bi_ne (tgt := 39) hx hb dX4_rivetAt_34 (by decide) (fun c_10 => ?_) (fun c_10 => ?_)
      · obtain ⟨tn3, tn3a, tn3b, tn3e⟩ := of_rng 0 1 rfl rfl c_10
        subst tn3e
        refine lv_iload_n hx hb dX4_rivetAt_39 rfl (lv_at hl 1 rfl) ?_
        refine lv_bipush (v := 8) hx hb dX4_rivetAt_40 (by decide) ?_
        refine lv_imul hx hb dX4_rivetAt_42 ?_
        refine lv_topv (y := nI (tn1 * 8)) (pk_mul tn1 8) ?_
        refine lv_iload_n hx hb dX4_rivetAt_43 rfl (lv_at hl 2 rfl) ?_
        refine lv_iadd hx hb dX4_rivetAt_44 ?_
        refine lv_topv (y := nI ((tn1 * 8) + tn2)) (nI_add (tn1 * 8) tn2) ?_
        refine lv_iconst (v := 2) hx hb dX4_rivetAt_45 (by decide) ?_
        refine lv_imul hx hb dX4_rivetAt_46 ?_
        refine lv_topv (y := nI (((tn1 * 8) + tn2) * 2)) (pk_mul ((tn1 * 8) + tn2) 2) ?_
        refine lv_iload_n hx hb dX4_rivetAt_47 rfl (lv_at hl 3 rfl) ?_
        refine lv_iadd hx hb dX4_rivetAt_48 ?_
        refine lv_topv (y := nI ((((tn1 * 8) + tn2) * 2) + tn3)) (nI_add (((tn1 * 8) + tn2) * 2) tn3) ?_
        exact W.iret (v := nI ((((tn1 * 8) + tn2) * 2) + tn3)) hx hb hr (fun tt9 ht hW => ⟨⟨(nI ((((tn1 * 8) + tn2) * 2) + tn3) : Int32), (), rfl, (lf_X4_rivetAt_a_11 a sn sk scu sch (nI tn1) (nI tn2) (nI tn3) hsn hsk c_2 tn1 tn1a rfl c_6 tn2 tn2a rfl c_10 tn3 tn3a tn3b rfl), trivial⟩, hS.F ht⟩) hS.2.2 dX4_rivetAt_49 hlocks
      · refine lv_iconst (v := (-1)) hx hb dX4_rivetAt_37 (by decide) ?_
        exact W.iret (v := (-1)) hx hb hr (fun tt9 ht hW => ⟨⟨((-1) : Int32), (), rfl, (lf_X4_rivetAt_a_12 a sn sk scu sch (nI tn1) (nI tn2) n3 hsn hsk c_2 tn1 tn1a rfl c_6 tn2 tn2a rfl c_10), trivial⟩, hS.F ht⟩) hS.2.2 dX4_rivetAt_38 hlocks

theorem lf_X0_rest_1 (a : Nat → Nat) (dm : Nat) (d0 : Nat → Int32) (d1 : Nat → Int32) (d2 : Nat → Int32) (d3 : Nat → Int32) (x1 : Nat) (x2 : Nat) (n3 : Int32) (hdm : dm ≤ 4) (hx1 : x1 < dm) (hx2 : x2 < dm) : dm ≤ 4 := by
  first | assumption | omega | decide
theorem lf_X0_rest_2 (a : Nat → Nat) (dm : Nat) (d0 : Nat → Int32) (d1 : Nat → Int32) (d2 : Nat → Int32) (d3 : Nat → Int32) (x1 : Nat) (x2 : Nat) (n3 : Int32) (hdm : dm ≤ 4) (hx1 : x1 < dm) (hx2 : x2 < dm) : x1 < dm := by
  first | assumption | omega | decide
theorem lf_X0_rest_3 (a : Nat → Nat) (dm : Nat) (d0 : Nat → Int32) (d1 : Nat → Int32) (d2 : Nat → Int32) (d3 : Nat → Int32) (x1 : Nat) (x2 : Nat) (n3 : Int32) (hdm : dm ≤ 4) (hx1 : x1 < dm) (hx2 : x2 < dm) : x2 < dm := by
  first | assumption | omega | decide
theorem lf_X0_rest_7 (a : Nat → Nat) (dm : Nat) (d0 : Nat → Int32) (d1 : Nat → Int32) (d2 : Nat → Int32) (d3 : Nat → Int32) (x1 : Nat) (x2 : Nat) (n3 : Int32) (hdm : dm ≤ 4) (hx1 : x1 < dm) (hx2 : x2 < dm) (d3_5 : Nat → Int32) (mm_6 : Nat) (hmm_6 : mm_6 ≤ 384) : mm_6 ≤ 384 := by
  first | assumption | omega | decide
theorem lf_X0_rest_11 (a : Nat → Nat) (dm : Nat) (d0 : Nat → Int32) (d1 : Nat → Int32) (d2 : Nat → Int32) (d3 : Nat → Int32) (x1 : Nat) (x2 : Nat) (n3 : Int32) (hdm : dm ≤ 4) (hx1 : x1 < dm) (hx2 : x2 < dm) (d3_5 : Nat → Int32) (mm_6 : Nat) (hmm_6 : mm_6 ≤ 384) (r_8 : Int32) (j1 : Nat) (w1 : Int32) (k30 : Nat) (hj30 : j1 ≤ mm_6) (hk30 : mm_6 < j1 + (k30 + 1)) (c_9 : nI mm_6 ≤ nI j1) : mm_6 ≤ j1 := by
  exact (nI_leI (a := mm_6) (b := j1) (by omega) (by omega)).mp c_9
theorem lf_X0_rest_13 (a : Nat → Nat) (dm : Nat) (d0 : Nat → Int32) (d1 : Nat → Int32) (d2 : Nat → Int32) (d3 : Nat → Int32) (x1 : Nat) (x2 : Nat) (n3 : Int32) (hdm : dm ≤ 4) (hx1 : x1 < dm) (hx2 : x2 < dm) (d3_5 : Nat → Int32) (mm_6 : Nat) (hmm_6 : mm_6 ≤ 384) (r_8 : Int32) (j1 : Nat) (w1 : Int32) (k30 : Nat) (hj30 : j1 ≤ mm_6) (hk30 : mm_6 < j1 + (k30 + 1)) (c_9 : ¬ nI mm_6 ≤ nI j1) : j1 < mm_6 := by
  exact Nat.lt_of_not_le (fun q => c_9 ((nI_leI (a := mm_6) (b := j1) (by omega) (by omega)).mpr q))
theorem lf_X0_rest_14 (a : Nat → Nat) (dm : Nat) (d0 : Nat → Int32) (d1 : Nat → Int32) (d2 : Nat → Int32) (d3 : Nat → Int32) (x1 : Nat) (x2 : Nat) (n3 : Int32) (hdm : dm ≤ 4) (hx1 : x1 < dm) (hx2 : x2 < dm) (d3_5 : Nat → Int32) (mm_6 : Nat) (hmm_6 : mm_6 ≤ 384) (r_8 : Int32) (j1 : Nat) (w1 : Int32) (k30 : Nat) (hj30 : j1 ≤ mm_6) (hk30 : mm_6 < j1 + (k30 + 1)) (c_9 : ¬ nI mm_6 ≤ nI j1) (n_12 : j1 < mm_6) : vp_in (nI j1) 384 := by
  first | exact vp_in_nI (by omega) (by decide) | (unfold vp_in; decide)
set_option maxHeartbeats 4000000 in
set_option maxRecDepth 100000 in
theorem c_X0_rest (l : Launch) (D : va_G) (cI cB cZ cJ : ClassId) (tx : List (ClassId × FieldType)) (a : Nat → Nat) (dm : Nat) (d0 : Nat → Int32) (d1 : Nat → Int32) (d2 : Nat → Int32) (d3 : Nat → Int32) (x1 : Nat) (x2 : Nat) (n3 : Int32) (hdm : dm ≤ 4) (hx1 : x1 < dm) (hx2 : x2 < dm) : WrI l D cI cB cZ cJ tx yX0_rest cX0_rest 8 (some .int) 4 0 0 [.ref (a 6), .int (nI x1), .int (nI x2), .int n3] [(a 6, .inr (0, [.ref (a 5), .ref (a 25), .ref (a 26), .ref (a 27), .ref (a 28), .ref (a 29), .int (nI dm)])), (a 25, .inl (cI, 1536, .inl d0)), (a 26, .inl (cI, 1536, .inl d1)), (a 27, .inl (cZ, 1536, .inl d2)), (a 28, .inl (cI, 384, .inl d3))] (fun (r : Int32) (v : (Nat → Int32)) => True) (fun v => [(a 6, .inr (0, [.ref (a 5), .ref (a 25), .ref (a 26), .ref (a 27), .ref (a 28), .ref (a 29), .int (nI dm)])), (a 25, .inl (cI, 1536, .inl d0)), (a 26, .inl (cI, 1536, .inl d1)), (a 27, .inl (cZ, 1536, .inl d2)), (a 28, .inl (cI, 384, .inl v))]) := by
  refine wri_of2 (by decide) (Nat.le_of_ble_eq_true rfl) ?_
  intro p e s m below meth c A ls H locs hC hK hP hD hA hS hl
  obtain ⟨hx, hb, hr, hml, hown, hts, hlocks, hin⟩ := hC
  have hown : s.vm.findClass RX0 = some m.cls := hown
  have hl : lv_has ls 8 [(0, .ref (a 6)), (1, .int (nI x1)), (2, .int (nI x2)), (3, .int n3)] := hl
  refine lv_aload_n hx hb dX0_rest_0 rfl (lv_at hl 0 rfl) ?_
  refine lv_iload_n hx hb dX0_rest_1 rfl (lv_at hl 1 rfl) ?_
  refine lv_iload_n hx hb dX0_rest_2 rfl (lv_at hl 2 rfl) ?_
  refine lv_iload_n hx hb dX0_rest_3 rfl (lv_at hl 3 rfl) ?_
  refine lv_aload_n hx hb dX0_rest_4 rfl (lv_at hl 0 rfl) ?_
  refine va_get (D := D) (ci := 0) (v := .ref (a 28)) (C := RX0) (T := TX0) (N := 7) hx hb hts inT_X0 hown hK.1 hP 0 rfl rfl 4 (by decide) (hts _ k_298) (fun _ h9 => h9) rfl dX0_rest_5 ?_
  refine eWi (wr := []) (va_runV (As := [.int (nI x1), .int (nI x2), .int n3, .ref (a 28)]) (rest := []) ⟨hx, hb, hml, hown, hts⟩ (c_X0_gather_d3 l D cI cB cZ cJ tx a dm d0 d1 d2 d3 x1 x2 n3 (lf_X0_rest_1 a dm d0 d1 d2 d3 x1 x2 n3 hdm hx1 hx2) (lf_X0_rest_2 a dm d0 d1 d2 d3 x1 x2 n3 hdm hx1 hx2) (lf_X0_rest_3 a dm d0 d1 d2 d3 x1 x2 n3 hdm hx1 hx2) H.size) (zV hts k_951 v_X0_gather ⟨Nat.le_of_ble_eq_true rfl, Nat.le_of_ble_eq_true rfl⟩) (pV (pxS hK hP hD [0, 1, 2, 3, 4] (by decide) rfl) hK hP 0 rfl rfl) rfl rfl hl.1 rfl (lv_room (Nat.le_of_ble_eq_true rfl)) dX0_rest_8 ⟨Nat.le_of_ble_eq_true rfl, Nat.le_of_ble_eq_true rfl⟩) hP hD hS hA [0, 1, 2, 3, 4] [] rfl rfl (by decide) (by decide) (fun r_4 u_5 H locs wr_4 hP hD hS => ?_)
  obtain ⟨d3_5, rfl⟩ : ∃ z, z = u_5 := ⟨_, rfl⟩
  have hP : va_P D vwCl [(a 6, .inr (0, [.ref (a 5), .ref (a 25), .ref (a 26), .ref (a 27), .ref (a 28), .ref (a 29), .int (nI dm)])), (a 25, .inl (cI, 1536, .inl d0)), (a 26, .inl (cI, 1536, .inl d1)), (a 27, .inl (cZ, 1536, .inl d2)), (a 28, .inl (cI, 384, .inl d3_5))] H := hP
  have hD : va_D A [(a 6, .inr (0, [.ref (a 5), .ref (a 25), .ref (a 26), .ref (a 27), .ref (a 28), .ref (a 29), .int (nI dm)])), (a 25, .inl (cI, 1536, .inl d0)), (a 26, .inl (cI, 1536, .inl d1)), (a 27, .inl (cZ, 1536, .inl d2)), (a 28, .inl (cI, 384, .inl d3_5))] := hD
  rcases wr_4 with ⟨mm_6, hmm_6, rfl⟩
  · refine lv_istore (lv' := [(4, .int (nI mm_6)), (0, .ref (a 6)), (1, .int (nI x1)), (2, .int (nI x2)), (3, .int n3)]) hx hb dX0_rest_11 hl (by decide) rfl (fun ls hl => ?_)
    refine lv_aload_n hx hb dX0_rest_13 rfl (lv_at hl 1 rfl) ?_
    refine va_get (D := D) (ci := 0) (v := .ref (a 28)) (C := RX0) (T := TX0) (N := 7) hx hb hts inT_X0 hown hK.1 hP 0 rfl rfl 4 (by decide) (hts _ k_298) (fun _ h9 => h9) rfl dX0_rest_14 ?_
    refine lv_iload hx hb dX0_rest_17 (lv_at hl 0 rfl) ?_
    refine eRi (va_runS (As := [.ref (a 28), .int (nI mm_6)]) (rest := []) ⟨hx, hb, hml, hown, hts⟩ (c_X0_lowerMedian_d3 l D cI cB cZ cJ tx a d3_5 mm_6 (lf_X0_rest_7 a dm d0 d1 d2 d3 x1 x2 n3 hdm hx1 hx2 d3_5 mm_6 hmm_6) H.size) (zS hts k_960 v_X0_lowerMedian ⟨Nat.le_of_ble_eq_true rfl, Nat.le_of_ble_eq_true rfl⟩) (px1 hK hP 4 rfl) rfl rfl hl.1 rfl (lv_room (Nat.le_of_ble_eq_true rfl)) dX0_rest_19 ⟨Nat.le_of_ble_eq_true rfl, Nat.le_of_ble_eq_true rfl⟩) hP hS hA (fun r_8 H locs wr_8 hP hS => ?_)
    refine lv_istore (lv' := [(5, .int r_8), (4, .int (nI mm_6)), (0, .ref (a 6)), (1, .int (nI x1)), (2, .int (nI x2)), (3, .int n3)]) hx hb dX0_rest_22 hl (by decide) rfl (fun ls hl => ?_)
    refine lv_iconst (v := 0) hx hb dX0_rest_24 (by decide) ?_
    refine lv_istore (lv' := [(6, .int 0), (5, .int r_8), (4, .int (nI mm_6)), (0, .ref (a 6)), (1, .int (nI x1)), (2, .int (nI x2)), (3, .int n3)]) hx hb dX0_rest_25 hl (by decide) rfl (fun ls hl => ?_)
    refine lv_iconst (v := 0) hx hb dX0_rest_27 (by decide) ?_
    refine lv_istore (lv' := [(7, .int 0), (6, .int 0), (5, .int r_8), (4, .int (nI mm_6)), (0, .ref (a 6)), (1, .int (nI x1)), (2, .int (nI x2)), (3, .int n3)]) hx hb dX0_rest_28 hl (by decide) rfl (fun ls hl => ?_)
    have lp30 : ∀ (k30 : Nat) (j1 : Nat) (w1 : Int32) (H : Heap) (locs : List Loc) (ls : Array Slot), j1 ≤ mm_6 → mm_6 < j1 + k30 → va_P D vwCl [(a 6, .inr (0, [.ref (a 5), .ref (a 25), .ref (a 26), .ref (a 27), .ref (a 28), .ref (a 29), .int (nI dm)])), (a 25, .inl (cI, 1536, .inl d0)), (a 26, .inl (cI, 1536, .inl d1)), (a 27, .inl (cZ, 1536, .inl d2)), (a 28, .inl (cI, 384, .inl d3_5))] H → va_D A [(a 6, .inr (0, [.ref (a 5), .ref (a 25), .ref (a 26), .ref (a 27), .ref (a 28), .ref (a 29), .int (nI dm)])), (a 25, .inl (cI, 1536, .inl d0)), (a 26, .inl (cI, 1536, .inl d1)), (a 27, .inl (cZ, 1536, .inl d2)), (a 28, .inl (cI, 384, .inl d3_5))] → va_S A s.heap H locs → lv_has ls 8 [(7, .int (nI j1)), (6, .int w1), (5, .int r_8), (4, .int (nI mm_6)), (0, .ref (a 6)), (1, .int (nI x1)), (2, .int (nI x2)), (3, .int n3)] → W p l e (rmX 4 0 0) s m ([.ref (a 6), .int (nI x1), .int (nI x2), .int n3] : List Value).toArray below meth c H locs 0 0 (MQ below (va_Qi (fun (r : Int32) (v : (Nat → Int32)) => True) (fun u => BX D A ((fun v => [(a 6, .inr (0, [.ref (a 5), .ref (a 25), .ref (a 26), .ref (a 27), .ref (a 28), .ref (a 29), .int (nI dm)])), (a 25, .inl (cI, 1536, .inl d0)), (a 26, .inl (cI, 1536, .inl d1)), (a 27, .inl (cZ, 1536, .inl d2)), (a 28, .inl (cI, 384, .inl v))]) u)) A) ([.ref (a 6), .int (nI x1), .int (nI x2), .int n3] : List Value).toArray s 0 0 A) (F0 m 30 ls []) := by
      intro k30
      induction k30 with
      | zero =>
        intro j1 w1 H locs ls hj30 hk30  hP hD hS hl
        exact absurd hk30 (by omega)
      | succ k30 ih30 =>
        intro j1 w1 H locs ls hj30 hk30  hP hD hS hl
        refine lv_iload hx hb dX0_rest_30 (lv_at hl 0 rfl) ?_
        refine lv_iload hx hb dX0_rest_32 (lv_at hl 3 rfl) ?_
        refine lv_icmp_ge (tgt := 61) hx hb dX0_rest_34 (by decide) (fun c_9 => ?_) (fun c_9 => ?_)
        · have n_10 : mm_6 ≤ j1 := (lf_X0_rest_11 a dm d0 d1 d2 d3 x1 x2 n3 hdm hx1 hx2 d3_5 mm_6 hmm_6 r_8 j1 w1 k30 hj30 hk30 c_9)
          refine lv_iload hx hb dX0_rest_61 (lv_at hl 1 rfl) ?_
          exact W.iret (v := w1) hx hb hr (fun tt9 ht hW => ⟨⟨(w1 : Int32), ((d3_5 : Nat → Int32)), rfl, trivial, ⟨by rw [ht]; exact hP, hD⟩⟩, hS.F ht⟩) hS.2.2 dX0_rest_63 hlocks
        · have n_12 : j1 < mm_6 := (lf_X0_rest_13 a dm d0 d1 d2 d3 x1 x2 n3 hdm hx1 hx2 d3_5 mm_6 hmm_6 r_8 j1 w1 k30 hj30 hk30 c_9)
          refine lv_iload hx hb dX0_rest_37 (lv_at hl 1 rfl) ?_
          refine lv_aload_n hx hb dX0_rest_39 rfl (lv_at hl 4 rfl) ?_
          refine va_get (D := D) (ci := 0) (v := .ref (a 28)) (C := RX0) (T := TX0) (N := 7) hx hb hts inT_X0 hown hK.1 hP 0 rfl rfl 4 (by decide) (hts _ k_298) (fun _ h9 => h9) rfl dX0_rest_40 ?_
          refine lv_iload hx hb dX0_rest_43 (lv_at hl 0 rfl) ?_
          refine ld_i hx hb hK hP 4 rfl (lf_X0_rest_14 a dm d0 d1 d2 d3 x1 x2 n3 hdm hx1 hx2 d3_5 mm_6 hmm_6 r_8 j1 w1 k30 hj30 hk30 c_9 n_12) dX0_rest_45 (fun x_15 => ?_)
          refine lv_iload hx hb dX0_rest_46 (lv_at hl 2 rfl) ?_
          refine lv_isub hx hb dX0_rest_48 ?_
          refine lv_topi (fun x_16 ex_16 => ?_)
          refine va_mabs hx hb (by rw [hml]; exact hl.1.symm) hown (hts _ k_970) (hts _ k_971) (hts _ k_131) (hts _ k_972) (Nat.le_of_ble_eq_true rfl) (Nat.le_of_ble_eq_true rfl) (Nat.le_of_ble_eq_true rfl) (Nat.le_of_ble_eq_true rfl) dX0_rest_49 ?_
          refine lv_topi (fun x_17 _ => ?_)
          refine lv_iadd hx hb dX0_rest_52 ?_
          refine lv_topi (fun x_18 ex_18 => ?_)
          refine lv_istore (lv' := [(6, .int x_18), (7, .int (nI j1)), (5, .int r_8), (4, .int (nI mm_6)), (0, .ref (a 6)), (1, .int (nI x1)), (2, .int (nI x2)), (3, .int n3)]) hx hb dX0_rest_53 hl (by decide) rfl (fun ls hl => ?_)
          refine lv_iinc (v := nI (j1 + 1)) (lv' := [(7, .int (nI (j1 + 1))), (6, .int x_18), (5, .int r_8), (4, .int (nI mm_6)), (0, .ref (a 6)), (1, .int (nI x1)), (2, .int (nI x2)), (3, .int n3)]) hx hb dX0_rest_55 hl (k := 1) rfl (nI_1 j1) (by decide) rfl (fun ls hl => ?_)
          refine lv_goto (tgt := 30) hx hb dX0_rest_58 (by decide) ?_
          exact ih30 (j1 + 1) x_18 H locs ls (by omega) (by omega)  (hP.sub [0, 1, 2, 3, 4] rfl) (hD.sub [0, 1, 2, 3, 4] (by decide) rfl) hS (lv_sub hl [0, 1, 2, 3, 4, 5, 6, 7] rfl)
    exact lp30 (mm_6 + 1) 0 0 H locs ls (by omega) (by omega)  (hP.sub [0, 1, 2, 3, 4] rfl) (hD.sub [0, 1, 2, 3, 4] (by decide) rfl) hS (lv_sub hl [0, 1, 2, 3, 4, 5, 6, 7] rfl)

theorem lf_X0_farther_1 (a : Nat → Nat) (dm : Nat) (d0 : Nat → Int32) (d1 : Nat → Int32) (d2 : Nat → Int32) (d3 : Nat → Int32) (d4 : Nat → Int32) (x1 : Nat) (x2 : Nat) (n3 : Int32) (hdm : dm ≤ 4) (hx1 : x1 < dm) (hx2 : x2 < dm) : dm ≤ 4 := by
  first | assumption | omega | decide
theorem lf_X0_farther_2 (a : Nat → Nat) (dm : Nat) (d0 : Nat → Int32) (d1 : Nat → Int32) (d2 : Nat → Int32) (d3 : Nat → Int32) (d4 : Nat → Int32) (x1 : Nat) (x2 : Nat) (n3 : Int32) (hdm : dm ≤ 4) (hx1 : x1 < dm) (hx2 : x2 < dm) : x1 < dm := by
  first | assumption | omega | decide
theorem lf_X0_farther_3 (a : Nat → Nat) (dm : Nat) (d0 : Nat → Int32) (d1 : Nat → Int32) (d2 : Nat → Int32) (d3 : Nat → Int32) (d4 : Nat → Int32) (x1 : Nat) (x2 : Nat) (n3 : Int32) (hdm : dm ≤ 4) (hx1 : x1 < dm) (hx2 : x2 < dm) : x2 < dm := by
  first | assumption | omega | decide
theorem lf_X0_farther_7 (a : Nat → Nat) (dm : Nat) (d0 : Nat → Int32) (d1 : Nat → Int32) (d2 : Nat → Int32) (d3 : Nat → Int32) (d4 : Nat → Int32) (x1 : Nat) (x2 : Nat) (n3 : Int32) (hdm : dm ≤ 4) (hx1 : x1 < dm) (hx2 : x2 < dm) (d3_5 : Nat → Int32) (mm_6 : Nat) (hmm_6 : mm_6 ≤ 384) : dm ≤ 4 := by
  first | assumption | omega | decide
theorem lf_X0_farther_8 (a : Nat → Nat) (dm : Nat) (d0 : Nat → Int32) (d1 : Nat → Int32) (d2 : Nat → Int32) (d3 : Nat → Int32) (d4 : Nat → Int32) (x1 : Nat) (x2 : Nat) (n3 : Int32) (hdm : dm ≤ 4) (hx1 : x1 < dm) (hx2 : x2 < dm) (d3_5 : Nat → Int32) (mm_6 : Nat) (hmm_6 : mm_6 ≤ 384) : x1 < dm := by
  first | assumption | omega | decide
theorem lf_X0_farther_9 (a : Nat → Nat) (dm : Nat) (d0 : Nat → Int32) (d1 : Nat → Int32) (d2 : Nat → Int32) (d3 : Nat → Int32) (d4 : Nat → Int32) (x1 : Nat) (x2 : Nat) (n3 : Int32) (hdm : dm ≤ 4) (hx1 : x1 < dm) (hx2 : x2 < dm) (d3_5 : Nat → Int32) (mm_6 : Nat) (hmm_6 : mm_6 ≤ 384) : x2 < dm := by
  first | assumption | omega | decide
theorem lf_X0_farther_13 (a : Nat → Nat) (dm : Nat) (d0 : Nat → Int32) (d1 : Nat → Int32) (d2 : Nat → Int32) (d3 : Nat → Int32) (d4 : Nat → Int32) (x1 : Nat) (x2 : Nat) (n3 : Int32) (hdm : dm ≤ 4) (hx1 : x1 < dm) (hx2 : x2 < dm) (d3_5 : Nat → Int32) (mm_6 : Nat) (hmm_6 : mm_6 ≤ 384) (d4_11 : Nat → Int32) (mm_12 : Nat) (hmm_12 : mm_12 ≤ 384) : mm_6 ≤ 384 := by
  first | assumption | omega | decide
theorem lf_X0_farther_15 (a : Nat → Nat) (dm : Nat) (d0 : Nat → Int32) (d1 : Nat → Int32) (d2 : Nat → Int32) (d3 : Nat → Int32) (d4 : Nat → Int32) (x1 : Nat) (x2 : Nat) (n3 : Int32) (hdm : dm ≤ 4) (hx1 : x1 < dm) (hx2 : x2 < dm) (d3_5 : Nat → Int32) (mm_6 : Nat) (hmm_6 : mm_6 ≤ 384) (d4_11 : Nat → Int32) (mm_12 : Nat) (hmm_12 : mm_12 ≤ 384) (r_14 : Int32) : mm_6 ≤ 384 := by
  first | assumption | omega | decide
theorem lf_X0_farther_19 (a : Nat → Nat) (dm : Nat) (d0 : Nat → Int32) (d1 : Nat → Int32) (d2 : Nat → Int32) (d3 : Nat → Int32) (d4 : Nat → Int32) (x1 : Nat) (x2 : Nat) (n3 : Int32) (hdm : dm ≤ 4) (hx1 : x1 < dm) (hx2 : x2 < dm) (d3_5 : Nat → Int32) (mm_6 : Nat) (hmm_6 : mm_6 ≤ 384) (d4_11 : Nat → Int32) (mm_12 : Nat) (hmm_12 : mm_12 ≤ 384) (r_14 : Int32) (r_16 : Int32) (j1 : Nat) (w1 : Int32) (k53 : Nat) (hj53 : j1 ≤ mm_6) (hk53 : mm_6 < j1 + (k53 + 1)) (c_17 : nI mm_6 ≤ nI j1) : mm_6 ≤ j1 := by
  exact (nI_leI (a := mm_6) (b := j1) (by omega) (by omega)).mp c_17
theorem lf_X0_farther_21 (a : Nat → Nat) (dm : Nat) (d0 : Nat → Int32) (d1 : Nat → Int32) (d2 : Nat → Int32) (d3 : Nat → Int32) (d4 : Nat → Int32) (x1 : Nat) (x2 : Nat) (n3 : Int32) (hdm : dm ≤ 4) (hx1 : x1 < dm) (hx2 : x2 < dm) (d3_5 : Nat → Int32) (mm_6 : Nat) (hmm_6 : mm_6 ≤ 384) (d4_11 : Nat → Int32) (mm_12 : Nat) (hmm_12 : mm_12 ≤ 384) (r_14 : Int32) (r_16 : Int32) (j1 : Nat) (w1 : Int32) (k53 : Nat) (hj53 : j1 ≤ mm_6) (hk53 : mm_6 < j1 + (k53 + 1)) (c_17 : ¬ nI mm_6 ≤ nI j1) : j1 < mm_6 := by
  exact Nat.lt_of_not_le (fun q => c_17 ((nI_leI (a := mm_6) (b := j1) (by omega) (by omega)).mpr q))
theorem lf_X0_farther_22 (a : Nat → Nat) (dm : Nat) (d0 : Nat → Int32) (d1 : Nat → Int32) (d2 : Nat → Int32) (d3 : Nat → Int32) (d4 : Nat → Int32) (x1 : Nat) (x2 : Nat) (n3 : Int32) (hdm : dm ≤ 4) (hx1 : x1 < dm) (hx2 : x2 < dm) (d3_5 : Nat → Int32) (mm_6 : Nat) (hmm_6 : mm_6 ≤ 384) (d4_11 : Nat → Int32) (mm_12 : Nat) (hmm_12 : mm_12 ≤ 384) (r_14 : Int32) (r_16 : Int32) (j1 : Nat) (w1 : Int32) (k53 : Nat) (hj53 : j1 ≤ mm_6) (hk53 : mm_6 < j1 + (k53 + 1)) (c_17 : ¬ nI mm_6 ≤ nI j1) (n_20 : j1 < mm_6) : vp_in (nI j1) 384 := by
  first | exact vp_in_nI (by omega) (by decide) | (unfold vp_in; decide)
theorem lf_X0_farther_28 (a : Nat → Nat) (dm : Nat) (d0 : Nat → Int32) (d1 : Nat → Int32) (d2 : Nat → Int32) (d3 : Nat → Int32) (d4 : Nat → Int32) (x1 : Nat) (x2 : Nat) (n3 : Int32) (hdm : dm ≤ 4) (hx1 : x1 < dm) (hx2 : x2 < dm) (d3_5 : Nat → Int32) (mm_6 : Nat) (hmm_6 : mm_6 ≤ 384) (d4_11 : Nat → Int32) (mm_12 : Nat) (hmm_12 : mm_12 ≤ 384) (r_14 : Int32) (r_16 : Int32) (j1 : Nat) (w1 : Int32) (k53 : Nat) (hj53 : j1 ≤ mm_6) (hk53 : mm_6 < j1 + (k53 + 1)) (c_17 : ¬ nI mm_6 ≤ nI j1) (n_20 : j1 < mm_6) (x_23 : Int32) (x_24 : Int32) (ex_24 : x_24 = x_23 - r_14) (x_25 : Int32) (c_26 : ¬ n3 < x_25) : vp_in (nI j1) 384 := by
  first | exact vp_in_nI (by omega) (by decide) | (unfold vp_in; decide)
set_option maxHeartbeats 4000000 in
set_option maxRecDepth 100000 in
theorem c_X0_farther (l : Launch) (D : va_G) (cI cB cZ cJ : ClassId) (tx : List (ClassId × FieldType)) (a : Nat → Nat) (dm : Nat) (d0 : Nat → Int32) (d1 : Nat → Int32) (d2 : Nat → Int32) (d3 : Nat → Int32) (d4 : Nat → Int32) (x1 : Nat) (x2 : Nat) (n3 : Int32) (hdm : dm ≤ 4) (hx1 : x1 < dm) (hx2 : x2 < dm) : WrI l D cI cB cZ cJ tx yX0_farther cX0_farther 9 (some .int) 4 0 0 [.ref (a 6), .int (nI x1), .int (nI x2), .int n3] [(a 6, .inr (0, [.ref (a 5), .ref (a 25), .ref (a 26), .ref (a 27), .ref (a 28), .ref (a 29), .int (nI dm)])), (a 25, .inl (cI, 1536, .inl d0)), (a 26, .inl (cI, 1536, .inl d1)), (a 27, .inl (cZ, 1536, .inl d2)), (a 28, .inl (cI, 384, .inl d3)), (a 29, .inl (cI, 384, .inl d4))] (fun (r : Int32) (v : (Nat → Int32) × (Nat → Int32)) => True) (fun v => [(a 6, .inr (0, [.ref (a 5), .ref (a 25), .ref (a 26), .ref (a 27), .ref (a 28), .ref (a 29), .int (nI dm)])), (a 25, .inl (cI, 1536, .inl d0)), (a 26, .inl (cI, 1536, .inl d1)), (a 27, .inl (cZ, 1536, .inl d2)), (a 28, .inl (cI, 384, .inl v.1)), (a 29, .inl (cI, 384, .inl v.2))]) := by
  refine wri_of2 (by decide) (Nat.le_of_ble_eq_true rfl) ?_
  intro p e s m below meth c A ls H locs hC hK hP hD hA hS hl
  obtain ⟨hx, hb, hr, hml, hown, hts, hlocks, hin⟩ := hC
  have hown : s.vm.findClass RX0 = some m.cls := hown
  have hl : lv_has ls 9 [(0, .ref (a 6)), (1, .int (nI x1)), (2, .int (nI x2)), (3, .int n3)] := hl
  refine lv_aload_n hx hb dX0_farther_0 rfl (lv_at hl 0 rfl) ?_
  refine lv_iload_n hx hb dX0_farther_1 rfl (lv_at hl 1 rfl) ?_
  refine lv_iload_n hx hb dX0_farther_2 rfl (lv_at hl 2 rfl) ?_
  refine lv_iconst (v := 0) hx hb dX0_farther_3 (by decide) ?_
  refine lv_aload_n hx hb dX0_farther_4 rfl (lv_at hl 0 rfl) ?_
  refine va_get (D := D) (ci := 0) (v := .ref (a 28)) (C := RX0) (T := TX0) (N := 7) hx hb hts inT_X0 hown hK.1 hP 0 rfl rfl 4 (by decide) (hts _ k_298) (fun _ h9 => h9) rfl dX0_farther_5 ?_
  refine eWi (wr := [(a 29, .inl (cI, 384, .inl d4))]) (va_runV (As := [.int (nI x1), .int (nI x2), .int 0, .ref (a 28)]) (rest := []) ⟨hx, hb, hml, hown, hts⟩ (c_X0_gather_d3 l D cI cB cZ cJ tx a dm d0 d1 d2 d3 x1 x2 0 (lf_X0_farther_1 a dm d0 d1 d2 d3 d4 x1 x2 n3 hdm hx1 hx2) (lf_X0_farther_2 a dm d0 d1 d2 d3 d4 x1 x2 n3 hdm hx1 hx2) (lf_X0_farther_3 a dm d0 d1 d2 d3 d4 x1 x2 n3 hdm hx1 hx2) H.size) (zV hts k_951 v_X0_gather ⟨Nat.le_of_ble_eq_true rfl, Nat.le_of_ble_eq_true rfl⟩) (pV (pxS hK hP hD [0, 1, 2, 3, 4] (by decide) rfl) hK hP 0 rfl rfl) rfl rfl hl.1 rfl (lv_room (Nat.le_of_ble_eq_true rfl)) dX0_farther_8 ⟨Nat.le_of_ble_eq_true rfl, Nat.le_of_ble_eq_true rfl⟩) hP hD hS hA [0, 1, 2, 3, 4] [5] rfl rfl (by decide) (by decide) (fun r_4 u_5 H locs wr_4 hP hD hS => ?_)
  obtain ⟨d3_5, rfl⟩ : ∃ z, z = u_5 := ⟨_, rfl⟩
  have hP : va_P D vwCl [(a 29, .inl (cI, 384, .inl d4)), (a 6, .inr (0, [.ref (a 5), .ref (a 25), .ref (a 26), .ref (a 27), .ref (a 28), .ref (a 29), .int (nI dm)])), (a 25, .inl (cI, 1536, .inl d0)), (a 26, .inl (cI, 1536, .inl d1)), (a 27, .inl (cZ, 1536, .inl d2)), (a 28, .inl (cI, 384, .inl d3_5))] H := hP
  have hD : va_D A [(a 29, .inl (cI, 384, .inl d4)), (a 6, .inr (0, [.ref (a 5), .ref (a 25), .ref (a 26), .ref (a 27), .ref (a 28), .ref (a 29), .int (nI dm)])), (a 25, .inl (cI, 1536, .inl d0)), (a 26, .inl (cI, 1536, .inl d1)), (a 27, .inl (cZ, 1536, .inl d2)), (a 28, .inl (cI, 384, .inl d3_5))] := hD
  rcases wr_4 with ⟨mm_6, hmm_6, rfl⟩
  · refine lv_istore (lv' := [(4, .int (nI mm_6)), (0, .ref (a 6)), (1, .int (nI x1)), (2, .int (nI x2)), (3, .int n3)]) hx hb dX0_farther_11 hl (by decide) rfl (fun ls hl => ?_)
    refine lv_aload_n hx hb dX0_farther_13 rfl (lv_at hl 1 rfl) ?_
    refine lv_iload_n hx hb dX0_farther_14 rfl (lv_at hl 2 rfl) ?_
    refine lv_iload_n hx hb dX0_farther_15 rfl (lv_at hl 3 rfl) ?_
    refine lv_iconst (v := 1) hx hb dX0_farther_16 (by decide) ?_
    refine lv_aload_n hx hb dX0_farther_17 rfl (lv_at hl 1 rfl) ?_
    refine va_get (D := D) (ci := 0) (v := .ref (a 29)) (C := RX0) (T := TX0) (N := 7) hx hb hts inT_X0 hown hK.1 hP 1 rfl rfl 5 (by decide) (hts _ k_299) (fun _ h9 => h9) rfl dX0_farther_18 ?_
    refine eWi (wr := [(a 28, .inl (cI, 384, .inl d3_5))]) (va_runV (As := [.int (nI x1), .int (nI x2), .int 1, .ref (a 29)]) (rest := []) ⟨hx, hb, hml, hown, hts⟩ (c_X0_gather_d4 l D cI cB cZ cJ tx a dm d0 d1 d2 d4 x1 x2 1 (lf_X0_farther_7 a dm d0 d1 d2 d3 d4 x1 x2 n3 hdm hx1 hx2 d3_5 mm_6 hmm_6) (lf_X0_farther_8 a dm d0 d1 d2 d3 d4 x1 x2 n3 hdm hx1 hx2 d3_5 mm_6 hmm_6) (lf_X0_farther_9 a dm d0 d1 d2 d3 d4 x1 x2 n3 hdm hx1 hx2 d3_5 mm_6 hmm_6) H.size) (zV hts k_951 v_X0_gather ⟨Nat.le_of_ble_eq_true rfl, Nat.le_of_ble_eq_true rfl⟩) (pV (pxS hK hP hD [1, 2, 3, 4, 0] (by decide) rfl) hK hP 1 rfl rfl) rfl rfl hl.1 rfl (lv_room (Nat.le_of_ble_eq_true rfl)) dX0_farther_21 ⟨Nat.le_of_ble_eq_true rfl, Nat.le_of_ble_eq_true rfl⟩) hP hD hS hA [1, 2, 3, 4, 0] [5] rfl rfl (by decide) (by decide) (fun r_10 u_11 H locs wr_10 hP hD hS => ?_)
    obtain ⟨d4_11, rfl⟩ : ∃ z, z = u_11 := ⟨_, rfl⟩
    have hP : va_P D vwCl [(a 28, .inl (cI, 384, .inl d3_5)), (a 6, .inr (0, [.ref (a 5), .ref (a 25), .ref (a 26), .ref (a 27), .ref (a 28), .ref (a 29), .int (nI dm)])), (a 25, .inl (cI, 1536, .inl d0)), (a 26, .inl (cI, 1536, .inl d1)), (a 27, .inl (cZ, 1536, .inl d2)), (a 29, .inl (cI, 384, .inl d4_11))] H := hP
    have hD : va_D A [(a 28, .inl (cI, 384, .inl d3_5)), (a 6, .inr (0, [.ref (a 5), .ref (a 25), .ref (a 26), .ref (a 27), .ref (a 28), .ref (a 29), .int (nI dm)])), (a 25, .inl (cI, 1536, .inl d0)), (a 26, .inl (cI, 1536, .inl d1)), (a 27, .inl (cZ, 1536, .inl d2)), (a 29, .inl (cI, 384, .inl d4_11))] := hD
    rcases wr_10 with ⟨mm_12, hmm_12, rfl⟩
    · refine lv_pop hx hb dX0_farther_24 rfl ?_
      refine lv_aload_n hx hb dX0_farther_25 rfl (lv_at hl 1 rfl) ?_
      refine va_get (D := D) (ci := 0) (v := .ref (a 28)) (C := RX0) (T := TX0) (N := 7) hx hb hts inT_X0 hown hK.1 hP 1 rfl rfl 4 (by decide) (hts _ k_298) (fun _ h9 => h9) rfl dX0_farther_26 ?_
      refine lv_iload hx hb dX0_farther_29 (lv_at hl 0 rfl) ?_
      refine eRi (va_runS (As := [.ref (a 28), .int (nI mm_6)]) (rest := []) ⟨hx, hb, hml, hown, hts⟩ (c_X0_lowerMedian_d3 l D cI cB cZ cJ tx a d3_5 mm_6 (lf_X0_farther_13 a dm d0 d1 d2 d3 d4 x1 x2 n3 hdm hx1 hx2 d3_5 mm_6 hmm_6 d4_11 mm_12 hmm_12) H.size) (zS hts k_960 v_X0_lowerMedian ⟨Nat.le_of_ble_eq_true rfl, Nat.le_of_ble_eq_true rfl⟩) (px1 hK hP 0 rfl) rfl rfl hl.1 rfl (lv_room (Nat.le_of_ble_eq_true rfl)) dX0_farther_31 ⟨Nat.le_of_ble_eq_true rfl, Nat.le_of_ble_eq_true rfl⟩) hP hS hA (fun r_14 H locs wr_14 hP hS => ?_)
      refine lv_istore (lv' := [(5, .int r_14), (4, .int (nI mm_6)), (0, .ref (a 6)), (1, .int (nI x1)), (2, .int (nI x2)), (3, .int n3)]) hx hb dX0_farther_34 hl (by decide) rfl (fun ls hl => ?_)
      refine lv_aload_n hx hb dX0_farther_36 rfl (lv_at hl 2 rfl) ?_
      refine va_get (D := D) (ci := 0) (v := .ref (a 29)) (C := RX0) (T := TX0) (N := 7) hx hb hts inT_X0 hown hK.1 hP 1 rfl rfl 5 (by decide) (hts _ k_299) (fun _ h9 => h9) rfl dX0_farther_37 ?_
      refine lv_iload hx hb dX0_farther_40 (lv_at hl 1 rfl) ?_
      refine eRi (va_runS (As := [.ref (a 29), .int (nI mm_6)]) (rest := []) ⟨hx, hb, hml, hown, hts⟩ (c_X0_lowerMedian_d4 l D cI cB cZ cJ tx a d4_11 mm_6 (lf_X0_farther_15 a dm d0 d1 d2 d3 d4 x1 x2 n3 hdm hx1 hx2 d3_5 mm_6 hmm_6 d4_11 mm_12 hmm_12 r_14) H.size) (zS hts k_960 v_X0_lowerMedian ⟨Nat.le_of_ble_eq_true rfl, Nat.le_of_ble_eq_true rfl⟩) (px1 hK hP 5 rfl) rfl rfl hl.1 rfl (lv_room (Nat.le_of_ble_eq_true rfl)) dX0_farther_42 ⟨Nat.le_of_ble_eq_true rfl, Nat.le_of_ble_eq_true rfl⟩) hP hS hA (fun r_16 H locs wr_16 hP hS => ?_)
      refine lv_istore (lv' := [(6, .int r_16), (5, .int r_14), (4, .int (nI mm_6)), (0, .ref (a 6)), (1, .int (nI x1)), (2, .int (nI x2)), (3, .int n3)]) hx hb dX0_farther_45 hl (by decide) rfl (fun ls hl => ?_)
      refine lv_iconst (v := 0) hx hb dX0_farther_47 (by decide) ?_
      refine lv_istore (lv' := [(7, .int 0), (6, .int r_16), (5, .int r_14), (4, .int (nI mm_6)), (0, .ref (a 6)), (1, .int (nI x1)), (2, .int (nI x2)), (3, .int n3)]) hx hb dX0_farther_48 hl (by decide) rfl (fun ls hl => ?_)
      refine lv_iconst (v := 0) hx hb dX0_farther_50 (by decide) ?_
      refine lv_istore (lv' := [(8, .int 0), (7, .int 0), (6, .int r_16), (5, .int r_14), (4, .int (nI mm_6)), (0, .ref (a 6)), (1, .int (nI x1)), (2, .int (nI x2)), (3, .int n3)]) hx hb dX0_farther_51 hl (by decide) rfl (fun ls hl => ?_)
      have lp53 : ∀ (k53 : Nat) (j1 : Nat) (w1 : Int32) (H : Heap) (locs : List Loc) (ls : Array Slot), j1 ≤ mm_6 → mm_6 < j1 + k53 → va_P D vwCl [(a 28, .inl (cI, 384, .inl d3_5)), (a 6, .inr (0, [.ref (a 5), .ref (a 25), .ref (a 26), .ref (a 27), .ref (a 28), .ref (a 29), .int (nI dm)])), (a 25, .inl (cI, 1536, .inl d0)), (a 26, .inl (cI, 1536, .inl d1)), (a 27, .inl (cZ, 1536, .inl d2)), (a 29, .inl (cI, 384, .inl d4_11))] H → va_D A [(a 28, .inl (cI, 384, .inl d3_5)), (a 6, .inr (0, [.ref (a 5), .ref (a 25), .ref (a 26), .ref (a 27), .ref (a 28), .ref (a 29), .int (nI dm)])), (a 25, .inl (cI, 1536, .inl d0)), (a 26, .inl (cI, 1536, .inl d1)), (a 27, .inl (cZ, 1536, .inl d2)), (a 29, .inl (cI, 384, .inl d4_11))] → va_S A s.heap H locs → lv_has ls 9 [(8, .int (nI j1)), (7, .int w1), (6, .int r_16), (5, .int r_14), (4, .int (nI mm_6)), (0, .ref (a 6)), (1, .int (nI x1)), (2, .int (nI x2)), (3, .int n3)] → W p l e (rmX 4 0 0) s m ([.ref (a 6), .int (nI x1), .int (nI x2), .int n3] : List Value).toArray below meth c H locs 0 0 (MQ below (va_Qi (fun (r : Int32) (v : (Nat → Int32) × (Nat → Int32)) => True) (fun u => BX D A ((fun v => [(a 6, .inr (0, [.ref (a 5), .ref (a 25), .ref (a 26), .ref (a 27), .ref (a 28), .ref (a 29), .int (nI dm)])), (a 25, .inl (cI, 1536, .inl d0)), (a 26, .inl (cI, 1536, .inl d1)), (a 27, .inl (cZ, 1536, .inl d2)), (a 28, .inl (cI, 384, .inl v.1)), (a 29, .inl (cI, 384, .inl v.2))]) u)) A) ([.ref (a 6), .int (nI x1), .int (nI x2), .int n3] : List Value).toArray s 0 0 A) (F0 m 53 ls []) := by
        intro k53
        induction k53 with
        | zero =>
          intro j1 w1 H locs ls hj53 hk53  hP hD hS hl
          exact absurd hk53 (by omega)
        | succ k53 ih53 =>
          intro j1 w1 H locs ls hj53 hk53  hP hD hS hl
          refine lv_iload hx hb dX0_farther_53 (lv_at hl 0 rfl) ?_
          refine lv_iload hx hb dX0_farther_55 (lv_at hl 4 rfl) ?_
          refine lv_icmp_ge (tgt := 103) hx hb dX0_farther_57 (by decide) (fun c_17 => ?_) (fun c_17 => ?_)
          · have n_18 : mm_6 ≤ j1 := (lf_X0_farther_19 a dm d0 d1 d2 d3 d4 x1 x2 n3 hdm hx1 hx2 d3_5 mm_6 hmm_6 d4_11 mm_12 hmm_12 r_14 r_16 j1 w1 k53 hj53 hk53 c_17)
            refine lv_iload hx hb dX0_farther_103 (lv_at hl 1 rfl) ?_
            have hP := hP.sub (ws' := [(a 6, .inr (0, [.ref (a 5), .ref (a 25), .ref (a 26), .ref (a 27), .ref (a 28), .ref (a 29), .int (nI dm)])), (a 25, .inl (cI, 1536, .inl d0)), (a 26, .inl (cI, 1536, .inl d1)), (a 27, .inl (cZ, 1536, .inl d2)), (a 28, .inl (cI, 384, .inl d3_5)), (a 29, .inl (cI, 384, .inl d4_11))]) [1, 2, 3, 4, 0, 5] rfl
            have hD := hD.sub (ws' := [(a 6, .inr (0, [.ref (a 5), .ref (a 25), .ref (a 26), .ref (a 27), .ref (a 28), .ref (a 29), .int (nI dm)])), (a 25, .inl (cI, 1536, .inl d0)), (a 26, .inl (cI, 1536, .inl d1)), (a 27, .inl (cZ, 1536, .inl d2)), (a 28, .inl (cI, 384, .inl d3_5)), (a 29, .inl (cI, 384, .inl d4_11))]) [1, 2, 3, 4, 0, 5] (by decide) rfl
            exact W.iret (v := w1) hx hb hr (fun tt9 ht hW => ⟨⟨(w1 : Int32), ((d3_5 : Nat → Int32), (d4_11 : Nat → Int32)), rfl, trivial, ⟨by rw [ht]; exact hP, hD⟩⟩, hS.F ht⟩) hS.2.2 dX0_farther_105 hlocks
          · have n_20 : j1 < mm_6 := (lf_X0_farther_21 a dm d0 d1 d2 d3 d4 x1 x2 n3 hdm hx1 hx2 d3_5 mm_6 hmm_6 d4_11 mm_12 hmm_12 r_14 r_16 j1 w1 k53 hj53 hk53 c_17)
            refine lv_aload_n hx hb dX0_farther_60 rfl (lv_at hl 5 rfl) ?_
            refine va_get (D := D) (ci := 0) (v := .ref (a 28)) (C := RX0) (T := TX0) (N := 7) hx hb hts inT_X0 hown hK.1 hP 1 rfl rfl 4 (by decide) (hts _ k_298) (fun _ h9 => h9) rfl dX0_farther_61 ?_
            refine lv_iload hx hb dX0_farther_64 (lv_at hl 0 rfl) ?_
            refine ld_i hx hb hK hP 0 rfl (lf_X0_farther_22 a dm d0 d1 d2 d3 d4 x1 x2 n3 hdm hx1 hx2 d3_5 mm_6 hmm_6 d4_11 mm_12 hmm_12 r_14 r_16 j1 w1 k53 hj53 hk53 c_17 n_20) dX0_farther_66 (fun x_23 => ?_)
            refine lv_iload hx hb dX0_farther_67 (lv_at hl 3 rfl) ?_
            refine lv_isub hx hb dX0_farther_69 ?_
            refine lv_topi (fun x_24 ex_24 => ?_)
            refine va_mabs hx hb (by rw [hml]; exact hl.1.symm) hown (hts _ k_970) (hts _ k_971) (hts _ k_131) (hts _ k_972) (Nat.le_of_ble_eq_true rfl) (Nat.le_of_ble_eq_true rfl) (Nat.le_of_ble_eq_true rfl) (Nat.le_of_ble_eq_true rfl) dX0_farther_70 ?_
            refine lv_topi (fun x_25 _ => ?_)
            refine lv_iload_n hx hb dX0_farther_73 rfl (lv_at hl 8 rfl) ?_
            refine lv_icmp_gt (tgt := 94) hx hb dX0_farther_74 (by decide) (fun c_26 => ?_) (fun c_26 => ?_)
            · obtain ⟨x_27, ex_27⟩ : ∃ z : Int32, z = w1 + Int32.ofInt 1 := ⟨_, rfl⟩
              refine lv_iinc (v := x_27) (lv' := [(7, .int x_27), (8, .int (nI j1)), (6, .int r_16), (5, .int r_14), (4, .int (nI mm_6)), (0, .ref (a 6)), (1, .int (nI x1)), (2, .int (nI x2)), (3, .int n3)]) hx hb dX0_farther_94 hl (k := 1) rfl (ex_27.symm) (by decide) rfl (fun ls hl => ?_)
              refine lv_iinc (v := nI (j1 + 1)) (lv' := [(8, .int (nI (j1 + 1))), (7, .int x_27), (6, .int r_16), (5, .int r_14), (4, .int (nI mm_6)), (0, .ref (a 6)), (1, .int (nI x1)), (2, .int (nI x2)), (3, .int n3)]) hx hb dX0_farther_97 hl (k := 1) rfl (nI_1 j1) (by decide) rfl (fun ls hl => ?_)
              refine lv_goto (tgt := 53) hx hb dX0_farther_100 (by decide) ?_
              exact ih53 (j1 + 1) x_27 H locs ls (by omega) (by omega)  (hP.sub [0, 1, 2, 3, 4, 5] rfl) (hD.sub [0, 1, 2, 3, 4, 5] (by decide) rfl) hS (lv_sub hl [0, 1, 2, 3, 4, 5, 6, 7, 8] rfl)
            · refine lv_aload_n hx hb dX0_farther_77 rfl (lv_at hl 5 rfl) ?_
              refine va_get (D := D) (ci := 0) (v := .ref (a 29)) (C := RX0) (T := TX0) (N := 7) hx hb hts inT_X0 hown hK.1 hP 1 rfl rfl 5 (by decide) (hts _ k_299) (fun _ h9 => h9) rfl dX0_farther_78 ?_
              refine lv_iload hx hb dX0_farther_81 (lv_at hl 0 rfl) ?_
              refine ld_i hx hb hK hP 5 rfl (lf_X0_farther_28 a dm d0 d1 d2 d3 d4 x1 x2 n3 hdm hx1 hx2 d3_5 mm_6 hmm_6 d4_11 mm_12 hmm_12 r_14 r_16 j1 w1 k53 hj53 hk53 c_17 n_20 x_23 x_24 ex_24 x_25 c_26) dX0_farther_83 (fun x_29 => ?_)
              refine lv_iload hx hb dX0_farther_84 (lv_at hl 2 rfl) ?_
              refine lv_isub hx hb dX0_farther_86 ?_
              refine lv_topi (fun x_30 ex_30 => ?_)
              refine va_mabs hx hb (by rw [hml]; exact hl.1.symm) hown (hts _ k_970) (hts _ k_971) (hts _ k_131) (hts _ k_972) (Nat.le_of_ble_eq_true rfl) (Nat.le_of_ble_eq_true rfl) (Nat.le_of_ble_eq_true rfl) (Nat.le_of_ble_eq_true rfl) dX0_farther_87 ?_
              refine lv_topi (fun x_31 _ => ?_)
              refine lv_iload_n hx hb dX0_farther_90 rfl (lv_at hl 8 rfl) ?_
              refine lv_icmp_le (tgt := 97) hx hb dX0_farther_91 (by decide) (fun c_32 => ?_) (fun c_32 => ?_)
              · refine lv_iinc (v := nI (j1 + 1)) (lv' := [(8, .int (nI (j1 + 1))), (7, .int w1), (6, .int r_16), (5, .int r_14), (4, .int (nI mm_6)), (0, .ref (a 6)), (1, .int (nI x1)), (2, .int (nI x2)), (3, .int n3)]) hx hb dX0_farther_97 hl (k := 0) rfl (nI_1 j1) (by decide) rfl (fun ls hl => ?_)
                refine lv_goto (tgt := 53) hx hb dX0_farther_100 (by decide) ?_
                exact ih53 (j1 + 1) w1 H locs ls (by omega) (by omega)  (hP.sub [0, 1, 2, 3, 4, 5] rfl) (hD.sub [0, 1, 2, 3, 4, 5] (by decide) rfl) hS (lv_sub hl [0, 1, 2, 3, 4, 5, 6, 7, 8] rfl)
              · obtain ⟨x_33, ex_33⟩ : ∃ z : Int32, z = w1 + Int32.ofInt 1 := ⟨_, rfl⟩
                refine lv_iinc (v := x_33) (lv' := [(7, .int x_33), (8, .int (nI j1)), (6, .int r_16), (5, .int r_14), (4, .int (nI mm_6)), (0, .ref (a 6)), (1, .int (nI x1)), (2, .int (nI x2)), (3, .int n3)]) hx hb dX0_farther_94 hl (k := 1) rfl (ex_33.symm) (by decide) rfl (fun ls hl => ?_)
                refine lv_iinc (v := nI (j1 + 1)) (lv' := [(8, .int (nI (j1 + 1))), (7, .int x_33), (6, .int r_16), (5, .int r_14), (4, .int (nI mm_6)), (0, .ref (a 6)), (1, .int (nI x1)), (2, .int (nI x2)), (3, .int n3)]) hx hb dX0_farther_97 hl (k := 1) rfl (nI_1 j1) (by decide) rfl (fun ls hl => ?_)
                refine lv_goto (tgt := 53) hx hb dX0_farther_100 (by decide) ?_
                exact ih53 (j1 + 1) x_33 H locs ls (by omega) (by omega)  (hP.sub [0, 1, 2, 3, 4, 5] rfl) (hD.sub [0, 1, 2, 3, 4, 5] (by decide) rfl) hS (lv_sub hl [0, 1, 2, 3, 4, 5, 6, 7, 8] rfl)
      exact lp53 (mm_6 + 1) 0 0 H locs ls (by omega) (by omega)  (hP.sub [0, 1, 2, 3, 4, 5] rfl) (hD.sub [0, 1, 2, 3, 4, 5] (by decide) rfl) hS (lv_sub hl [0, 1, 2, 3, 4, 5, 6, 7, 8] rfl)

theorem lf_X5_othersWith_3 (a : Nat → Nat) (zs : Nat) (zo : Nat) (zh : Nat) (zx : Nat) (sn : Nat) (sk : Nat) (scu : Int32) (sch : Int32) (g2 : Nat → Int32) (n1 : Int32) (j1 : Nat) (w1 : Int32) (k4 : Nat) (hj4 : j1 ≤ 384) (hk4 : 384 < j1 + (k4 + 1)) (c_1 : 384 ≤ nI j1) : 384 ≤ j1 := by
  exact (nI_leI (a := 384) (b := j1) (by omega) (by omega)).mp c_1
theorem lf_X5_othersWith_5 (a : Nat → Nat) (zs : Nat) (zo : Nat) (zh : Nat) (zx : Nat) (sn : Nat) (sk : Nat) (scu : Int32) (sch : Int32) (g2 : Nat → Int32) (n1 : Int32) (j1 : Nat) (w1 : Int32) (k4 : Nat) (hj4 : j1 ≤ 384) (hk4 : 384 < j1 + (k4 + 1)) (c_1 : ¬ 384 ≤ nI j1) : j1 < 384 := by
  exact Nat.lt_of_not_le (fun q => c_1 ((nI_leI (a := 384) (b := j1) (by omega) (by omega)).mpr q))
theorem lf_X5_othersWith_8 (a : Nat → Nat) (zs : Nat) (zo : Nat) (zh : Nat) (zx : Nat) (sn : Nat) (sk : Nat) (scu : Int32) (sch : Int32) (g2 : Nat → Int32) (n1 : Int32) (j1 : Nat) (w1 : Int32) (k4 : Nat) (hj4 : j1 ≤ 384) (hk4 : 384 < j1 + (k4 + 1)) (c_1 : ¬ 384 ≤ nI j1) (n_4 : j1 < 384) (c_6 : ¬ nI j1 = n1) : vp_in (nI j1) 384 := by
  first | exact vp_in_nI (by omega) (by decide) | (unfold vp_in; decide)
set_option maxHeartbeats 4000000 in
set_option maxRecDepth 100000 in
theorem c_X5_othersWith (l : Launch) (D : va_G) (cI cB cZ cJ : ClassId) (tx : List (ClassId × FieldType)) (a : Nat → Nat) (zs : Nat) (zo : Nat) (zh : Nat) (zx : Nat) (sn : Nat) (sk : Nat) (scu : Int32) (sch : Int32) (g2 : Nat → Int32) (n1 : Int32) : RdI l D cI cB cZ cJ tx yX5_othersWith cX5_othersWith 4 (some .int) 0 [.ref (a 9), .int n1] [(a 9, .inr (5, [.ref (a 5), .ref (a 45), .int (nI zs), .int (nI zo), .int (nI zh), .int (nI zx)])), (a 5, .inr (4, [.ref (a 18), .ref (a 19), .ref (a 20), .ref (a 21), .ref (a 22), .ref (a 23), .ref (a 24), .int (nI sn), .int (nI sk), .int scu, .int sch])), (a 20, .inl (cI, 384, .inl g2))] (fun r => True) := by
  refine rdi_of2 (by decide) (Nat.le_of_ble_eq_true rfl) ?_
  intro p e s m below meth c A ls H locs hC hK hP hD hA hS hl
  obtain ⟨hx, hb, hr, hml, hown, hts, hlocks, hin⟩ := hC
  have hown : s.vm.findClass RX5 = some m.cls := hown
  have hl : lv_has ls 4 [(0, .ref (a 9)), (1, .int n1)] := hl
  refine lv_iconst (v := 0) hx hb dX5_othersWith_0 (by decide) ?_
  refine lv_istore_n (lv' := [(2, .int 0), (0, .ref (a 9)), (1, .int n1)]) hx hb dX5_othersWith_1 rfl hl (by decide) rfl (fun ls hl => ?_)
  refine lv_iconst (v := 0) hx hb dX5_othersWith_2 (by decide) ?_
  refine lv_istore_n (lv' := [(3, .int 0), (2, .int 0), (0, .ref (a 9)), (1, .int n1)]) hx hb dX5_othersWith_3 rfl hl (by decide) rfl (fun ls hl => ?_)
  have lp4 : ∀ (k4 : Nat) (j1 : Nat) (w1 : Int32) (H : Heap) (locs : List Loc) (ls : Array Slot), j1 ≤ 384 → 384 < j1 + k4 → va_P D vwCl [(a 9, .inr (5, [.ref (a 5), .ref (a 45), .int (nI zs), .int (nI zo), .int (nI zh), .int (nI zx)])), (a 5, .inr (4, [.ref (a 18), .ref (a 19), .ref (a 20), .ref (a 21), .ref (a 22), .ref (a 23), .ref (a 24), .int (nI sn), .int (nI sk), .int scu, .int sch])), (a 20, .inl (cI, 384, .inl g2))] H → va_S A s.heap H locs → lv_has ls 4 [(3, .int (nI j1)), (2, .int w1), (0, .ref (a 9)), (1, .int n1)] → W p l e (rmX 0 0 0) s m ([.ref (a 9), .int n1] : List Value).toArray below meth c H locs 0 0 (MQ below (va_Qi (fun r (_ : Unit) => (fun r => True) r) (fun _ _ => True) A) ([.ref (a 9), .int n1] : List Value).toArray s 0 0 A) (F0 m 4 ls []) := by
    intro k4
    induction k4 with
    | zero =>
      intro j1 w1 H locs ls hj4 hk4  hP hS hl
      exact absurd hk4 (by omega)
    | succ k4 ih4 =>
      intro j1 w1 H locs ls hj4 hk4  hP hS hl
      refine lv_iload_n hx hb dX5_othersWith_4 rfl (lv_at hl 0 rfl) ?_
      refine lv_sipush (v := 384) hx hb dX5_othersWith_5 (by decide) ?_
      refine lv_icmp_ge (tgt := 42) hx hb dX5_othersWith_8 (by decide) (fun c_1 => ?_) (fun c_1 => ?_)
      · have n_2 : 384 ≤ j1 := (lf_X5_othersWith_3 a zs zo zh zx sn sk scu sch g2 n1 j1 w1 k4 hj4 hk4 c_1)
        refine lv_iload_n hx hb dX5_othersWith_42 rfl (lv_at hl 1 rfl) ?_
        exact W.iret (v := w1) hx hb hr (fun tt9 ht hW => ⟨⟨(w1 : Int32), (), rfl, trivial, trivial⟩, hS.F ht⟩) hS.2.2 dX5_othersWith_43 hlocks
      · have n_4 : j1 < 384 := (lf_X5_othersWith_5 a zs zo zh zx sn sk scu sch g2 n1 j1 w1 k4 hj4 hk4 c_1)
        refine lv_iload_n hx hb dX5_othersWith_11 rfl (lv_at hl 1 rfl) ?_
        refine lv_iload_n hx hb dX5_othersWith_12 rfl (lv_at hl 0 rfl) ?_
        refine lv_iload_n hx hb dX5_othersWith_13 rfl (lv_at hl 3 rfl) ?_
        refine lv_icmp_eq (tgt := 33) hx hb dX5_othersWith_14 (by decide) (fun c_6 => ?_) (fun c_6 => ?_)
        · refine lv_iconst (v := 0) hx hb dX5_othersWith_33 (by decide) ?_
          refine lv_iadd hx hb dX5_othersWith_34 ?_
          refine lv_topi (fun x_7 ex_7 => ?_)
          refine lv_istore_n (lv' := [(2, .int x_7), (3, .int (nI j1)), (0, .ref (a 9)), (1, .int n1)]) hx hb dX5_othersWith_35 rfl hl (by decide) rfl (fun ls hl => ?_)
          refine lv_iinc (v := nI (j1 + 1)) (lv' := [(3, .int (nI (j1 + 1))), (2, .int x_7), (0, .ref (a 9)), (1, .int n1)]) hx hb dX5_othersWith_36 hl (k := 1) rfl (nI_1 j1) (by decide) rfl (fun ls hl => ?_)
          refine lv_goto (tgt := 4) hx hb dX5_othersWith_39 (by decide) ?_
          exact ih4 (j1 + 1) x_7 H locs ls (by omega) (by omega)  (hP.sub [0, 1, 2] rfl)  hS (lv_sub hl [0, 1, 2, 3] rfl)
        · refine lv_aload_n hx hb dX5_othersWith_17 rfl (lv_at hl 2 rfl) ?_
          refine va_get (D := D) (ci := 5) (v := .ref (a 5)) (C := RX5) (T := TX5) (N := 6) hx hb hts inT_X5 hown hK.1 hP 0 rfl rfl 0 (by decide) (hts _ k_401) (fun _ h9 => h9) rfl dX5_othersWith_18 ?_
          refine va_getN (D := D) (ci := 4) (v := .ref (a 20)) (C := RX4) (T := TX4) (N := 11) hx hb hts inT_X4 hown hK.1 hP 1 rfl rfl 2 (by decide) (va_Nw.use rfl (hK.2.2.1 _ n_239)) (fun _ h9 => h9) rfl dX5_othersWith_21 ?_
          refine lv_iload_n hx hb dX5_othersWith_24 rfl (lv_at hl 0 rfl) ?_
          refine ld_i hx hb hK hP 2 rfl (lf_X5_othersWith_8 a zs zo zh zx sn sk scu sch g2 n1 j1 w1 k4 hj4 hk4 c_1 n_4 c_6) dX5_othersWith_25 (fun x_9 => ?_)
          refine lv_if_le (tgt := 33) hx hb dX5_othersWith_26 (by decide) (fun c_10 => ?_) (fun c_10 => ?_)
          · refine lv_iconst (v := 0) hx hb dX5_othersWith_33 (by decide) ?_
            refine lv_iadd hx hb dX5_othersWith_34 ?_
            refine lv_topi (fun x_11 ex_11 => ?_)
            refine lv_istore_n (lv' := [(2, .int x_11), (3, .int (nI j1)), (0, .ref (a 9)), (1, .int n1)]) hx hb dX5_othersWith_35 rfl hl (by decide) rfl (fun ls hl => ?_)
            refine lv_iinc (v := nI (j1 + 1)) (lv' := [(3, .int (nI (j1 + 1))), (2, .int x_11), (0, .ref (a 9)), (1, .int n1)]) hx hb dX5_othersWith_36 hl (k := 1) rfl (nI_1 j1) (by decide) rfl (fun ls hl => ?_)
            refine lv_goto (tgt := 4) hx hb dX5_othersWith_39 (by decide) ?_
            exact ih4 (j1 + 1) x_11 H locs ls (by omega) (by omega)  (hP.sub [0, 1, 2] rfl)  hS (lv_sub hl [0, 1, 2, 3] rfl)
          · refine lv_iconst (v := 1) hx hb dX5_othersWith_29 (by decide) ?_
            refine lv_goto (tgt := 34) hx hb dX5_othersWith_30 (by decide) ?_
            refine lv_iadd hx hb dX5_othersWith_34 ?_
            refine lv_topi (fun x_12 ex_12 => ?_)
            refine lv_istore_n (lv' := [(2, .int x_12), (3, .int (nI j1)), (0, .ref (a 9)), (1, .int n1)]) hx hb dX5_othersWith_35 rfl hl (by decide) rfl (fun ls hl => ?_)
            refine lv_iinc (v := nI (j1 + 1)) (lv' := [(3, .int (nI (j1 + 1))), (2, .int x_12), (0, .ref (a 9)), (1, .int n1)]) hx hb dX5_othersWith_36 hl (k := 1) rfl (nI_1 j1) (by decide) rfl (fun ls hl => ?_)
            refine lv_goto (tgt := 4) hx hb dX5_othersWith_39 (by decide) ?_
            exact ih4 (j1 + 1) x_12 H locs ls (by omega) (by omega)  (hP.sub [0, 1, 2] rfl)  hS (lv_sub hl [0, 1, 2, 3] rfl)
  exact lp4 (384 + 1) 0 0 H locs ls (by omega) (by omega)  (hP.sub [0, 1, 2] rfl)  hS (lv_sub hl [0, 1, 2, 3] rfl)
