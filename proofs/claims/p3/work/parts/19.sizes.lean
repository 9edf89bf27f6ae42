theorem lf_X0_rest_1 (a : Nat → Nat) (dm : Nat) (d0 : Nat → Int32) (d1 : Nat → Int32) (d2 : Nat → Int32) (d3 : Nat → Int32) (x1 : Nat) (x2 : Nat) (n3 : Int32) (hdm : dm ≤ 4) (hx1 : x1 < dm) (hx2 : x2 < dm) : dm ≤ 4 := by
  first | assumption | omega | decide
theorem lf_X0_rest_2 (a : Nat → Nat) (dm : Nat) (d0 : Nat → Int32) (d1 : Nat → Int32) (d2 : Nat → Int32) (d3 : Nat → Int32) (x1 : Nat) (x2 : Nat) (n3 : Int32) (hdm : dm ≤ 4) (hx1 : x1 < dm) (hx2 : x2 < dm) : x1 < dm := by
  first | assumption | omega | decide
theorem lf_X0_rest_3 (a : Nat → Nat) (dm : Nat) (d0 : Nat → Int32) (d1 : Nat → Int32) (d2 : Nat → Int32) (d3 : Nat → Int32) (x1 : Nat) (x2 : Nat) (n3 : Int32) (hdm : dm ≤ 4) (hx1 : x1 < dm) (hx2 : x2 < dm) : x2 < dm := by
  first | assumption | omega | decide
theorem lf_X0_rest_7 (a : Nat → Nat) (dm : Nat) (d0 : Nat → Int32) (d1 : Nat → Int32) (d2 : Nat → Int32) (d3 : Nat → Int32) (x1 : Nat) (x2 : Nat) (n3 : Int32) (hdm : dm ≤ 4) (hx1 : x1 < dm) (hx2 : x2 < dm) (d3_5 : Nat → Int32) (mm_6 : Nat) (hmm_6 : mm_6 ≤ 384) : mm_6 ≤ 384 := by
  first | assumption | omega | decide
theorem lf_X0_rest_11 (a : Nat → Nat) (dm : Nat) (d0 : Nat → Int32) (d1 : Nat → Int32) (d2 : Nat → Int32) (d3 : Nat → Int32) (x1 : Nat) (x2 : Nat) (n3 : Int32) (hdm : dm ≤ 4) (hx1 : x1 < dm) (hx2 : x2 < dm) (d3_5 : Nat → Int32) (mm_6 : Nat) (hmm_6 : mm_6 ≤ 384) (r_8 : Int32) (j1 : Nat) (w1 : Int32) (k30 : Nat) (hj30 : j1 ≤ mm_6) (hk30 : mm_6 < j1 + (k30 + 1)) (c_9 : nI mm_6 ≤ nI j1) : mm_6 ≤ j1 := by
  exact (nI_leI (a := mm_6) (b := j1) (by omega) (by omega)).mp c_9
theorem lf_X0_rest_13 (a : Nat → Nat) (dm : Nat) (d0 : Nat → Int32) (d1 : Nat → Int32) (d2 : Nat → Int32) (d3 : Nat → Int32) (x1 : Nat) (x2 : Nat) (n3 : Int32) (hdm : dm ≤ 4) (hx1 : x1 < dm) (hx2 : x2 < dm) (d3_5 : Nat → Int32) (mm_6 : Nat) (hmm_6 : mm_6 ≤ 384) (r_8 : Int32) (j1 : Nat) (w1 : Int32) (k30 : Nat) (hj30 : j1 ≤ mm_6) (hk30 : mm_6 < j1 + (k30 + 1)) (c_9 : ¬ nI mm_6 ≤ nI j1) : j1 < mm_6 := by
  exact Nat.lt_of_not_le (fun q => c_9 ((nI_leI (a := mm_6) (b := j1) (by omega) (by omega)).mpr q))
theorem lf_X0_rest_14 (a : Nat → Nat) (dm : Nat) (d0 : Nat → Int32) (d1 : Nat → Int32) (d2 : Nat → Int32) (d3 : Nat → Int32) (x1 : Nat) (x2 : Nat) (n3 : Int32) (hdm : dm ≤ 4) (hx1 : x1 < dm) (hx2 : x2 < dm) (d3_5 : Nat → Int32) (mm_6 : Nat) (hmm_6 : mm_6 ≤ 384) (r_8 : Int32) (j1 : Nat) (w1 : Int32) (k30 : Nat) (hj30 : j1 ≤ mm_6) (hk30 : mm_6 < j1 + (k30 + 1)) (c_9 : ¬ nI mm_6 ≤ nI j1) (n_12 : j1 < mm_6) : vp_in (nI j1) 384 := by
  first | exact vp_in_nI (by omega) (by decide) | (unfold vp_in; decide)
set_option maxHeartbeats 4000000 in
set_option maxRecDepth 100000 in
theorem c_X0_rest (l : Launch) (D : va_G) (cI cB cZ cJ : ClassId) (tx : List (ClassId × FieldType)) (a : Nat → Nat) (dm : Nat) (d0 : Nat → Int32) (d1 : Nat → Int32) (d2 : Nat → Int32) (d3 : Nat → Int32) (x1 : Nat) (x2 : Nat) (n3 : Int32) (hdm : dm ≤ 4) (hx1 : x1 < dm) (hx2 : x2 < dm) : WrI l D cI cB cZ cJ tx yX0_rest cX0_rest 8 (some .int) 4 0 0 [.ref (a 6), .int (nI x1), .int (nI x2), .int n3] [(a 6, .inr (0, [.ref (a 5), .ref (a 25), .ref (a 26), .ref (a 27), .ref (a 28), .ref (a 29), .int (nI dm)])), (a 25, .inl (cI, 1536, .inl d0)), (a 26, .inl (cI, 1536, .inl d1)), (a 27, .inl (cZ, 1536, .inl d2)), (a 28, .inl (cI, 384, .inl d3))] (fun (r : Int32) (v : (Nat → Int32)) => True) (fun v => [(a 6, .inr (0, [.ref (a 5), .ref (a 25), .ref (a 26), .ref (a 27), .ref (a 28), .ref (a 29), .int (nI dm)])), (a 25, .inl (cI, 1536, .inl d0)), (a 26, .inl (cI, 1536, .inl d1)), (a 27, .inl (cZ, 1536, .inl d2)), (a 28, .inl (cI, 384, .inl v))]) := by
  refine wri_of2 (by decide) (Nat.le_of_ble_eq_true rfl) ?_
  intro p e s m below meth c A ls H locs hC hK hP hD hA hS hl
  obtain ⟨hx, hb, hr, hml, hown, hts, hlocks, hin⟩ := hC
  have hown : s.vm.findClass RX0 = some m.cls := hown
  have hl : lv_has ls 8 [(0, .ref (a 6)), (1, .int (nI x1)), (2, .int (nI x2)), (3, .int n3)] := hl
  refine lv_aload_n hx hb dX0_rest_0 rfl (lv_at hl 0 rfl) ?_
  refine lv_iload_n hx hb dX0_rest_1 rfl (lv_at hl 1 rfl) ?_
  refine lv_iload_n hx hb dX0_rest_2 rfl (lv_at hl 2 rfl) ?_
  refine lv_iload_n hx hb dX0_rest_3 rfl (lv_at hl 3 rfl) ?_
  refine lv_aload_n hx hb dX0_rest_4 rfl (lv_at hl 0 rfl) ?_
  refine va_get (D := D) (ci := 0) (v := .ref (a 28)) (C := RX0) (T := TX0) (N := 7) hx hb hts inT_X0 hown hK.1 hP 0 rfl rfl 4 (by decide) (hts _ k_298) (fun _ h9 => h9) rfl dX0_rest_5 ?_
  refine eWi (wr := []) (va_runV (As := [.int (nI x1), .int (nI x2), .int n3, .ref (a 28)]) (rest := []) ⟨hx, hb, hml, hown, hts⟩ (c_X0_gather_d3 l D cI cB cZ cJ tx a dm d0 d1 d2 d3 x1 x2 n3 (lf_X0_rest_1 a dm d0 d1 d2 d3 x1 x2 n3 hdm hx1 hx2) (lf_X0_rest_2 a dm d0 d1 d2 d3 x1 x2 n3 hdm hx1 hx2) (lf_X0_rest_3 a dm d0 d1 d2 d3 x1 x2 n3 hdm hx1 hx2) H.size) (zV hts k_951 v_X0_gather ⟨Nat.le_of_ble_eq_true rfl, Nat.le_of_ble_eq_true rfl⟩) (pV (pxS hK hP hD [0, 1, 2, 3, 4] (by decide) rfl) hK hP 0 rfl rfl) rfl rfl hl.1 rfl (lv_room (Nat.le_of_ble_eq_true rfl)) dX0_rest_8 ⟨Nat.le_of_ble_eq_true rfl, Nat.le_of_ble_eq_true rfl⟩) hP hD hS hA [0, 1, 2, 3, 4] [] rfl rfl (by decide) (by decide) (fun r_4 u_5 H locs wr_4 hP hD hS => ?_)
  obtain ⟨d3_5, rfl⟩ : ∃ z, z = u_5 := ⟨_, rfl⟩
  have hP : va_P D vwCl [(a 6, .inr (0, [.ref (a 5), .ref (a 25), .ref (a 26), .ref (a 27), .ref (a 28), .ref (a 29), .int (nI dm)])), (a 25, .inl (cI, 1536, .inl d0)), (a 26, .inl (cI, 1536, .inl d1)), (a 27, .inl (cZ, 1536, .inl d2)), (a 28, .inl (cI, 384, .inl d3_5))] H := hP
  have hD : va_D A [(a 6, .inr (0, [.ref (a 5), .ref (a 25), .ref (a 26), .ref (a 27), .ref (a 28), .ref (a 29), .int (nI dm)])), (a 25, .inl (cI, 1536, .inl d0)), (a 26, .inl (cI, 1536, .inl d1)), (a 27, .inl (cZ, 1536, .inl d2)), (a 28, .inl (cI, 384, .inl d3_5))] := hD
  rcases wr_4 with ⟨mm_6, hmm_6, rfl⟩
  · refine lv_istore (lv' := [(4, .int (nI mm_6)), (0, .ref (a 6)), (1, .int (nI x1)), (2, .int (nI x2)), (3, .int n3)]) hx hb dX0_rest_11 hl (by decide) rfl (fun ls hl => ?_)
    refine lv_aload_n hx hb dX0_rest_13 rfl (lv_at hl 1 rfl) ?_
    refine va_get (D := D) (ci := 0) (v := .ref (a 28)) (C := RX0) (T := TX0) (N := 7) hx hb hts inT_X0 hown hK.1 hP 0 rfl rfl 4 (by decide) (hts _ k_298) (fun _ h9 => h9) rfl dX0_rest_14 ?_
    refine lv_iload hx hb dX0_rest_17 (lv_at hl 0 rfl) ?_
    refine eRi (va_runS (As := [.ref (a 28), .int (nI mm_6)]) (rest := []) ⟨hx, hb, hml, hown, hts⟩ (c_X0_lowerMedian_d3 l D cI cB cZ cJ tx a d3_5 mm_6 (lf_X0_rest_7 a dm d0 d1 d2 d3 x1 x2 n3 hdm hx1 hx2 d3_5 mm_6 hmm_6) H.size) (zS hts k_960 v_X0_lowerMedian ⟨Nat.le_of_ble_eq_true rfl, Nat.le_of_ble_eq_true rfl⟩) (px1 hK hP 4 rfl) rfl rfl hl.1 rfl (lv_room (Nat.le_of_ble_eq_true rfl)) dX0_rest_19 ⟨Nat.le_of_ble_eq_true rfl, Nat.le_of_ble_eq_true rfl⟩) hP hS hA (fun r_8 H locs wr_8 hP hS => ?_)
    refine lv_istore (lv' := [(5, .int r_8), (4, .int (nI mm_6)), (0, .ref (a 6)), (1, .int (nI x1)), (2, .int (nI x2)), (3, .int n3)]) hx hb dX0_rest_22 hl (by decide) rfl (fun ls hl => ?_)
    refine lv_iconst (v := 0) hx hb dX0_rest_24 (by decide) ?_
    refine lv_istore (lv' := [(6, .int 0), (5, .int r_8), (4, .int (nI mm_6)), (0, .ref (a 6)), (1, .int (nI x1)), (2, .int (nI x2)), (3, .int n3)]) hx hb dX0_rest_25 hl (by decide) rfl (fun ls hl => ?_)
    refine lv_iconst (v := 0) hx hb dX0_rest_27 (by decide) ?_
    refine lv_istore (lv' := [(7, .int 0), (6, .int 0), (5, .int r_8), (4, .int (nI mm_6)), (0, .ref (a 6)), (1, .int (nI x1)), (2, .int (nI x2)), (3, .int n3)]) hx hb dX0_rest_28 hl (by decide) rfl (fun ls hl => ?_)
    have lp30 : ∀ (k30 : Nat) (j1 : Nat) (w1 : Int32) (H : Heap) (locs : List Loc) (ls : Array Slot), j1 ≤ mm_6 → mm_6 < j1 + k30 → va_P D vwCl [(a 6, .inr (0, [.ref (a 5), .ref (a 25), .ref (a 26), .ref (a 27), .ref (a 28), .ref (a 29), .int (nI dm)])), (a 25, .inl (cI, 1536, .inl d0)), (a 26, .inl (cI, 1536, .inl d1)), (a 27, .inl (cZ, 1536, .inl d2)), (a 28, .inl (cI, 384, .inl d3_5))] H → va_D A [(a 6, .inr (0, [.ref (a 5), .ref (a 25), .ref (a 26), .ref (a 27), .ref (a 28), .ref (a 29), .int (nI dm)])), (a 25, .inl (cI, 1536, .inl d0)), (a 26, .inl (cI, 1536, .inl d1)), (a 27, .inl (cZ, 1536, .inl d2)), (a 28, .inl (cI, 384, .inl d3_5))] → va_S A s.heap H locs → lv_has ls 8 [(7, .int (nI j1)), (6, .int w1), (5, .int r_8), (4, .int (nI mm_6)), (0, .ref (a 6)), (1, .int (nI x1)), (2, .int (nI x2)), (3, .int n3)] → W p l e (rmX 4 0 0) s m ([.ref (a 6), .int (nI x1), .int (nI x2), .int n3] : List Value).toArray below meth c H locs 0 0 (MQ below (va_Qi (fun (r : Int32) (v : (Nat → Int32)) => True) (fun u => BX D A ((fun v => [(a 6, .inr (0, [.ref (a 5), .ref (a 25), .ref (a 26), .ref (a 27), .ref (a 28), .ref (a 29), .int (nI dm)])), (a 25, .inl (cI, 1536, .inl d0)), (a 26, .inl (cI, 1536, .inl d1)), (a 27, .inl (cZ, 1536, .inl d2)), (a 28, .inl (cI, 384, .inl v))]) u)) A) ([.ref (a 6), .int (nI x1), .int (nI x2), .int n3] : List Value).toArray s 0 0 A) (F0 m 30 ls []) := by
      intro k30
      induction k30 with
      | zero =>
        intro j1 w1 H locs ls hj30 hk30  hP hD hS hl
        exact absurd hk30 (by omega)
      | succ k30 ih30 =>
        intro j1 w1 H locs ls hj30 hk30  hP hD hS hl
        refine lv_iload hx hb dX0_rest_30 (lv_at hl 0 rfl) ?_
        refine lv_iload hx hb dX0_rest_32 (lv_at hl 3 rfl) ?_
        refine lv_icmp_ge (tgt := 61) hx hb dX0_rest_34 (by decide) (fun c_9 => ?_) (fun c_9 => ?_)
        · have n_10 : mm_6 ≤ j1 := (lf_X0_rest_11 a dm d0 d1 d2 d3 x1 x2 n3 hdm hx1 hx2 d3_5 mm_6 hmm_6 r_8 j1 w1 k30 hj30 hk30 c_9)
          refine lv_iload hx hb dX0_rest_61 (lv_at hl 1 rfl) ?_
          exact W.iret (v := w1) hx hb hr (fun tt9 ht hW => ⟨⟨(w1 : Int32), ((d3_5 : Nat → Int32)), rfl, trivial, ⟨by rw [ht]; exact hP, hD⟩⟩, hS.F ht⟩) hS.2.2 dX0_rest_63 hlocks
        · have n_12 : j1 < mm_6 := (lf_X0_rest_13 a dm d0 d1 d2 d3 x1 x2 n3 hdm hx1 hx2 d3_5 mm_6 hmm_6 r_8 j1 w1 k30 hj30 hk30 c_9)
          refine lv_iload hx hb dX0_rest_37 (lv_at hl 1 rfl) ?_
          refine lv_aload_n hx hb dX0_rest_39 rfl (lv_at hl 4 rfl) ?_
          refine va_get (D := D) (ci := 0) (v := .ref (a 28)) (C := RX0) (T := TX0) (N := 7) hx hb hts inT_X0 hown hK.1 hP 0 rfl rfl 4 (by decide) (hts _ k_298) (fun _ h9 => h9) rfl dX0_rest_40 ?_
          refine lv_iload hx hb dX0_rest_43 (lv_at hl 0 rfl) ?_
          refine ld_i hx hb hK hP 4 rfl (lf_X0_rest_14 a dm d0 d1 d2 d3 x1 x2 n3 hdm hx1 hx2 d3_5 mm_6 hmm_6 r_8 j1 w1 k30 hj30 hk30 c_9 n_12) dX0_rest_45 (fun x_15 => ?_)
          refine lv_iload hx hb dX0_rest_46 (lv_at hl 2 rfl) ?_
          refine lv_isub hx hb dX0_rest_48 ?_
          refine lv_topi (fun x_16 ex_16 => ?_)
          refine va_mabs hx hb (by rw [hml]; exact hl.1.symm) hown (hts _ k_970) (hts _ k_971) (hts _ k_131) (hts _ k_972) (Nat.le_of_ble_eq_true rfl) (Nat.le_of_ble_eq_true rfl) (Nat.le_of_ble_eq_true rfl) (Nat.le_of_ble_eq_true rfl) dX0_rest_49 ?_
          refine lv_topi (fun x_17 _ => ?_)
          refine lv_iadd hx hb dX0_rest_52 ?_
          refine lv_topi (fun x_18 ex_18 => ?_)
          refine lv_istore (lv' := [(6, .int x_18), (7, .int (nI j1)), (5, .int r_8), (4, .int (nI mm_6)), (0, .ref (a 6)), (1, .int (nI x1)), (2, .int (nI x2)), (3, .int n3)]) hx hb dX0_rest_53 hl (by decide) rfl (fun ls hl => ?_)
          refine lv_iinc (v := nI (j1 + 1)) (lv' := [(7, .int (nI (j1 + 1))), (6, .int x_18), (5, .int r_8), (4, .int (nI mm_6)), (0, .ref (a 6)), (1, .int (nI x1)), (2, .int (nI x2)), (3, .int n3)]) hx hb dX0_rest_55 hl (k := 1) rfl (nI_1 j1) (by decide) rfl (fun ls hl => ?_)
          refine lv_goto (tgt := 30) hx hb dX0_rest_58 (by decide) ?_
          exact ih30 (j1 + 1) x_18 H locs ls (by omega) (by omega)  (hP.sub [0, 1, 2, 3, 4] rfl) (hD.sub [0, 1, 2, 3, 4] (by decide) rfl) hS (lv_sub hl [0, 1, 2, 3, 4, 5, 6, 7] rfl)
    exact lp30 (mm_6 + 1) 0 0 H locs ls (by omega) (by omega)  (hP.sub [0, 1, 2, 3, 4] rfl) (hD.sub [0, 1, 2, 3, 4] (by decide) rfl) hS (lv_sub hl [0, 1, 2, 3, 4, 5, 6, 7] rfl)

theorem lf_X0_farther_1 (a : Nat → Nat) (dm : Nat) (d0 : Nat → Int32) (d1 : Nat → Int32) (d2 : Nat → Int32) (d3 : Nat → Int32) (d4 : Nat → Int32) (x1 : Nat) (x2 : Nat) (n3 : Int32) (hdm : dm ≤ 4) (hx1 : x1 < dm) (hx2 : x2 < dm) : dm ≤ 4 := by
  first | assumption | omega | decide
theorem lf_X0_farther_2 (a : Nat → Nat) (dm : Nat) (d0 : Nat → Int32) (d1 : Nat → Int32) (d2 : Nat → Int32) (d3 : Nat → Int32) (d4 : Nat → Int32) (x1 : Nat) (x2 : Nat) (n3 : Int32) (hdm : dm ≤ 4) (hx1 : x1 < dm) (hx2 : x2 < dm) : x1 < dm := by
  first | assumption | omega | decide
theorem lf_X0_farther_3 (a : Nat → Nat) (dm : Nat) (d0 : Nat → Int32) (d1 : Nat → Int32) (d2 : Nat → Int32) (d3 : Nat → Int32) (d4 : Nat → Int32) (x1 : Nat) (x2 : Nat) (n3 : Int32) (hdm : dm ≤ 4) (hx1 : x1 < dm) (hx2 : x2 < dm) : x2 < dm := by
  first | assumption | omega | decide
theorem lf_X0_farther_7 (a : Nat → Nat) (dm : Nat) (d0 : Nat → Int32) (d1 : Nat → Int32) (d2 : Nat → Int32) (d3 : Nat → Int32) (d4 : Nat → Int32) (x1 : Nat) (x2 : Nat) (n3 : Int32) (hdm : dm ≤ 4) (hx1 : x1 < dm) (hx2 : x2 < dm) (d3_5 : Nat → Int32) (mm_6 : Nat) (hmm_6 : mm_6 ≤ 384) : dm ≤ 4 := by
  first | assumption | omega | decide
theorem lf_X0_farther_8 (a : Nat → Nat) (dm : Nat) (d0 : Nat → Int32) (d1 : Nat → Int32) (d2 : Nat → Int32) (d3 : Nat → Int32) (d4 : Nat → Int32) (x1 : Nat) (x2 : Nat) (n3 : Int32) (hdm : dm ≤ 4) (hx1 : x1 < dm) (hx2 : x2 < dm) (d3_5 : Nat → Int32) (mm_6 : Nat) (hmm_6 : mm_6 ≤ 384) : x1 < dm := by
  first | assumption | omega | decide
theorem lf_X0_farther_9 (a : Nat → Nat) (dm : Nat) (d0 : Nat → Int32) (d1 : Nat → Int32) (d2 : Nat → Int32) (d3 : Nat → Int32) (d4 : Nat → Int32) (x1 : Nat) (x2 : Nat) (n3 : Int32) (hdm : dm ≤ 4) (hx1 : x1 < dm) (hx2 : x2 < dm) (d3_5 : Nat → Int32) (mm_6 : Nat) (hmm_6 : mm_6 ≤ 384) : x2 < dm := by
  first | assumption | omega | decide
theorem lf_X0_farther_13 (a : Nat → Nat) (dm : Nat) (d0 : Nat → Int32) (d1 : Nat → Int32) (d2 : Nat → Int32) (d3 : Nat → Int32) (d4 : Nat → Int32) (x1 : Nat) (x2 : Nat) (n3 : Int32) (hdm : dm ≤ 4) (hx1 : x1 < dm) (hx2 : x2 < dm) (d3_5 : Nat → Int32) (mm_6 : Nat) (hmm_6 : mm_6 ≤ 384) (d4_11 : Nat → Int32) (mm_12 : Nat) (hmm_12 : mm_12 ≤ 384) : mm_6 ≤ 384 := by
  first | assumption | omega | decide
theorem lf_X0_farther_15 (a : Nat → Nat) (dm : Nat) (d0 : Nat → Int32) (d1 : Nat → Int32) (d2 : Nat → Int32) (d3 : Nat → Int32) (d4 : Nat → Int32) (x1 : Nat) (x2 : Nat) (n3 : Int32) (hdm : dm ≤ 4) (hx1 : x1 < dm) (hx2 : x2 < dm) (d3_5 : Nat → Int32) (mm_6 : Nat) (hmm_6 : mm_6 ≤ 384) (d4_11 : Nat → Int32) (mm_12 : Nat) (hmm_12 : mm_12 ≤ 384) (r_14 : Int32) : mm_6 ≤ 384 := by
  first | assumption | omega | decide
theorem lf_X0_farther_19 (a : Nat → Nat) (dm : Nat) (d0 : Nat → Int32) (d1 : Nat → Int32) (d2 : Nat → Int32) (d3 : Nat → Int32) (d4 : Nat → Int32) (x1 : Nat) (x2 : Nat) (n3 : Int32) (hdm : dm ≤ 4) (hx1 : x1 < dm) (hx2 : x2 < dm) (d3_5 : Nat → Int32) (mm_6 : Nat) (hmm_6 : mm_6 ≤ 384) (d4_11 : Nat → Int32) (mm_12 : Nat) (hmm_12 : mm_12 ≤ 384) (r_14 : Int32) (r_16 : Int32) (j1 : Nat) (w1 : Int32) (k53 : Nat) (hj53 : j1 ≤ mm_6) (hk53 : mm_6 < j1 + (k53 + 1)) (c_17 : nI mm_6 ≤ nI j1) : mm_6 ≤ j1 := by
  exact (nI_leI (a := mm_6) (b := j1) (by omega) (by omega)).mp c_17
theorem lf_X0_farther_21 (a : Nat → Nat) (dm : Nat) (d0 : Nat → Int32) (d1 : Nat → Int32) (d2 : Nat → Int32) (d3 : Nat → Int32) (d4 : Nat → Int32) (x1 : Nat) (x2 : Nat) (n3 : Int32) (hdm : dm ≤ 4) (hx1 : x1 < dm) (hx2 : x2 < dm) (d3_5 : Nat → Int32) (mm_6 : Nat) (hmm_6 : mm_6 ≤ 384) (d4_11 : Nat → Int32) (mm_12 : Nat) (hmm_12 : mm_12 ≤ 384) (r_14 : Int32) (r_16 : Int32) (j1 : Nat) (w1 : Int32) (k53 : Nat) (hj53 : j1 ≤ mm_6) (hk53 : mm_6 < j1 + (k53 + 1)) (c_17 : ¬ nI mm_6 ≤ nI j1) : j1 < mm_6 := by
  exact Nat.lt_of_not_le (fun q => c_17 ((nI_leI (a := mm_6) (b := j1) (by omega) (by omega)).mpr q))
theorem lf_X0_farther_22 (a : Nat → Nat) (dm : Nat) (d0 : Nat → Int32) (d1 : Nat → Int32) (d2 : Nat → Int32) (d3 : Nat → Int32) (d4 : Nat → Int32) (x1 : Nat) (x2 : Nat) (n3 : Int32) (hdm : dm ≤ 4) (hx1 : x1 < dm) (hx2 : x2 < dm) (d3_5 : Nat → Int32) (mm_6 : Nat) (hmm_6 : mm_6 ≤ 384) (d4_11 : Nat → Int32) (mm_12 : Nat) (hmm_12 : mm_12 ≤ 384) (r_14 : Int32) (r_16 : Int32) (j1 : Nat) (w1 : Int32) (k53 : Nat) (hj53 : j1 ≤ mm_6) (hk53 : mm_6 < j1 + (k53 + 1)) (c_17 : ¬ nI mm_6 ≤ nI j1) (n_20 : j1 < mm_6) : vp_in (nI j1) 384 := by
  first | exact vp_in_nI (by omega) (by decide) | (unfold vp_in; decide)
theorem lf_X0_farther_28 (a : Nat → Nat) (dm : Nat) (d0 : Nat → Int32) (d1 : Nat → Int32) (d2 : Nat → Int32) (d3 : Nat → Int32) (d4 : Nat → Int32) (x1 : Nat) (x2 : Nat) (n3 : Int32) (hdm : dm ≤ 4) (hx1 : x1 < dm) (hx2 : x2 < dm) (d3_5 : Nat → Int32) (mm_6 : Nat) (hmm_6 : mm_6 ≤ 384) (d4_11 : Nat → Int32) (mm_12 : Nat) (hmm_12 : mm_12 ≤ 384) (r_14 : Int32) (r_16 : Int32) (j1 : Nat) (w1 : Int32) (k53 : Nat) (hj53 : j1 ≤ mm_6) (hk53 : mm_6 < j1 + (k53 + 1)) (c_17 : ¬ nI mm_6 ≤ nI j1) (n_20 : j1 < mm_6) (x_23 : Int32) (x_24 : Int32) (ex_24 : x_24 = x_23 - r_14) (x_25 : Int32) (c_26 : ¬ n3 < x_25) : vp_in (nI j1) 384 := by
  first | exact vp_in_nI (by omega) (by decide) | (unfold vp_in; decide)
set_option maxHeartbeats 4000000 in
set_option maxRecDepth 100000 in
theorem c_X0_farther (l : Launch) (D : va_G) (cI cB cZ cJ : ClassId) (tx : List (ClassId × FieldType)) (a : Nat → Nat) (dm : Nat) (d0 : Nat → Int32) (d1 : Nat → Int32) (d2 : Nat → Int32) (d3 : Nat → Int32) (d4 : Nat → Int32) (x1 : Nat) (x2 : Nat) (n3 : Int32) (hdm : dm ≤ 4) (hx1 : x1 < dm) (hx2 : x2 < dm) : WrI l D cI cB cZ cJ tx yX0_farther cX0_farther 9 (some .int) 4 0 0 [.ref (a 6), .int (nI x1), .int (nI x2), .int n3] [(a 6, .inr (0, [.ref (a 5), .ref (a 25), .ref (a 26), .ref (a 27), .ref (a 28), .ref (a 29), .int (nI dm)])), (a 25, .inl (cI, 1536, .inl d0)), (a 26, .inl (cI, 1536, .inl d1)), (a 27, .inl (cZ, 1536, .inl d2)), (a 28, .inl (cI, 384, .inl d3)), (a 29, .inl (cI, 384, .inl d4))] (fun (r : Int32) (v : (Nat → Int32) × (Nat → Int32)) => True) (fun v => [(a 6, .inr (0, [.ref (a 5), .ref (a 25), .ref (a 26), .ref (a 27), .ref (a 28), .ref (a 29), .int (nI dm)])), (a 25, .inl (cI, 1536, .inl d0)), (a 26, .inl (cI, 1536, .inl d1)), (a 27, .inl (cZ, 1536, .inl d2)), (a 28, .inl (cI, 384, .inl v.1)), (a 29, .inl (cI, 384, .inl v.2))]) := by
  refine wri_of2 (by decide) (Nat.le_of_ble_eq_true rfl) ?_
  intro p e s m below meth c A ls H locs hC hK hP hD hA hS hl
  obtain ⟨hx, hb, hr, hml, hown, hts, hlocks, hin⟩ := hC
  have hown : s.vm.findClass RX0 = some m.cls := hown
  have hl : lv_has ls 9 [(0, .ref (a 6)), (1, .int (nI x1)), (2, .int (nI x2)), (3, .int n3)] := hl
  refine lv_aload_n hx hb dX0_farther_0 rfl (lv_at hl 0 rfl) ?_
  refine lv_iload_n hx hb dX0_farther_1 rfl (lv_at hl 1 rfl) ?_
  refine lv_iload_n hx hb dX0_farther_2 rfl (lv_at hl 2 rfl) ?_
  refine lv_iconst (v := 0) hx hb dX0_farther_3 (by decide) ?_
  refine lv_aload_n hx hb dX0_farther_4 rfl (lv_at hl 0 rfl) ?_
  refine va_get (D := D) (ci := 0) (v := .ref (a 28)) (C := RX0) (T := TX0) (N := 7) hx hb hts inT_X0 hown hK.1 hP 0 rfl rfl 4 (by decide) (hts _ k_298) (fun _ h9 => h9) rfl dX0_farther_5 ?_
  refine eWi (wr := [(a 29, .inl (cI, 384, .inl d4))]) (va_runV (As := [.int (nI x1), .int (nI x2), .int 0, .ref (a 28)]) (rest := []) ⟨hx, hb, hml, hown, hts⟩ (c_X0_gather_d3 l D cI cB cZ cJ tx a dm d0 d1 d2 d3 x1 x2 0 (lf_X0_farther_1 a dm d0 d1 d2 d3 d4 x1 x2 n3 hdm hx1 hx2) (lf_X0_farther_2 a dm d0 d1 d2 d3 d4 x1 x2 n3 hdm hx1 hx2) (lf_X0_farther_3 a dm d0 d1 d2 d3 d4 x1 x2 n3 hdm hx1 hx2) H.size) (zV hts k_951 v_X0_gather ⟨Nat.le_of_ble_eq_true rfl, Nat.le_of_ble_eq_true rfl⟩) (pV (pxS hK hP hD [0, 1, 2, 3, 4] (by decide) rfl) hK hP 0 rfl rfl) rfl rfl hl.1 rfl (lv_room (Nat.le_of_ble_eq_true rfl)) dX0_farther_8 ⟨Nat.le_of_ble_eq_true rfl, Nat.le_of_ble_eq_true rfl⟩) hP hD hS hA [0, 1, 2, 3, 4] [5] rfl rfl (by decide) (by decide) (fun r_4 u_5 H locs wr_4 hP hD hS => ?_)
  obtain ⟨d3_5, rfl⟩ : ∃ z, z = u_5 := ⟨_, rfl⟩
  have hP : va_P D vwCl [(a 29, .inl (cI, 384, .inl d4)), (a 6, .inr (0, [.ref (a 5), .ref (a 25), .ref (a 26), .ref (a 27), .ref (a 28), .ref (a 29), .int (nI dm)])), (a 25, .inl (cI, 1536, .inl d0)), (a 26, .inl (cI, 1536, .inl d1)), (a 27, .inl (cZ, 1536, .inl d2)), (a 28, .inl (cI, 384, .inl d3_5))] H := hP
  have hD : va_D A [(a 29, .inl (cI, 384, .inl d4)), (a 6, .inr (0, [.ref (a 5), .ref (a 25), .ref (a 26), .ref (a 27), .ref (a 28), .ref (a 29), .int (nI dm)])), (a 25, .inl (cI, 1536, .inl d0)), (a 26, .inl (cI, 1536, .inl d1)), (a 27, .inl (cZ, 1536, .inl d2)), (a 28, .inl (cI, 384, .inl d3_5))] := hD
  rcases wr_4 with ⟨mm_6, hmm_6, rfl⟩
  · refine lv_istore (lv' := [(4, .int (nI mm_6)), (0, .ref (a 6)), (1, .int (nI x1)), (2, .int (nI x2)), (3, .int n3)]) hx hb dX0_farther_11 hl (by decide) rfl (fun ls hl => ?_)
    refine lv_aload_n hx hb dX0_farther_13 rfl (lv_at hl 1 rfl) ?_
    refine lv_iload_n hx hb dX0_farther_14 rfl (lv_at hl 2 rfl) ?_
    refine lv_iload_n hx hb dX0_farther_15 rfl (lv_at hl 3 rfl) ?_
    refine lv_iconst (v := 1) hx hb dX0_farther_16 (by decide) ?_
    refine lv_aload_n hx hb dX0_farther_17 rfl (lv_at hl 1 rfl) ?_
    refine va_get (D := D) (ci := 0) (v := .ref (a 29)) (C := RX0) (T := TX0) (N := 7) hx hb hts inT_X0 hown hK.1 hP 1 rfl rfl 5 (by decide) (hts _ k_299) (fun _ h9 => h9) rfl dX0_farther_18 ?_
    refine eWi (wr := [(a 28, .inl (cI, 384, .inl d3_5))]) (va_runV (As := [.int (nI x1), .int (nI x2), .int 1, .ref (a 29)]) (rest := []) ⟨hx, hb, hml, hown, hts⟩ (c_X0_gather_d4 l D cI cB cZ cJ tx a dm d0 d1 d2 d4 x1 x2 1 (lf_X0_farther_7 a dm d0 d1 d2 d3 d4 x1 x2 n3 hdm hx1 hx2 d3_5 mm_6 hmm_6) (lf_X0_farther_8 a dm d0 d1 d2 d3 d4 x1 x2 n3 hdm hx1 hx2 d3_5 mm_6 hmm_6) (lf_X0_farther_9 a dm d0 d1 d2 d3 d4 x1 x2 n3 hdm hx1 hx2 d3_5 mm_6 hmm_6) H.size) (zV hts k_951 v_X0_gather ⟨Nat.le_of_ble_eq_true rfl, Nat.le_of_ble_eq_true rfl⟩) (pV (pxS hK hP hD [1, 2, 3, 4, 0] (by decide) rfl) hK hP 1 rfl rfl) rfl rfl hl.1 rfl (lv_room (Nat.le_of_ble_eq_true rfl)) dX0_farther_21 ⟨Nat.le_of_ble_eq_true rfl, Nat.le_of_ble_eq_true rfl⟩) hP hD hS hA [1, 2, 3, 4, 0] [5] rfl rfl (by decide) (by decide) (fun r_10 u_11 H locs wr_10 hP hD hS => ?_)
    obtain ⟨d4_11, rfl⟩ : ∃ z, z = u_11 := ⟨_, rfl⟩
    have hP : va_P D vwCl [(a 28, .inl (cI, 384, .inl d3_5)), (a 6, .inr (0, [.ref (a 5), .ref (a 25), .ref (a 26), .ref (a 27), .ref (a 28), .ref (a 29), .int (nI dm)])), (a 25, .inl (cI, 1536, .inl d0)), (a 26, .inl (cI, 1536, .inl d1)), (a 27, .inl (cZ, 1536, .inl d2)), (a 29, .inl (cI, 384, .inl d4_11))] H := hP
    have hD : va_D A [(a 28, .inl (cI, 384, .inl d3_5)), (a 6, .inr (0, [.ref (a 5), .ref (a 25), .ref (a 26), .ref (a 27), .ref (a 28), .ref (a 29), .int (nI dm)])), (a 25, .inl (cI, 1536, .inl d0)), (a 26, .inl (cI, 1536, .inl d1)), (a 27, .inl (cZ, 1536, .inl d2)), (a 29, .inl (cI, 384, .inl d4_11))] := hD
    rcases wr_10 with ⟨mm_12, hmm_12, rfl⟩
    · refine lv_pop hx hb dX0_farther_24 rfl ?_
      refine lv_aload_n hx hb dX0_farther_25 rfl (lv_at hl 1 rfl) ?_
      refine va_get (D := D) (ci := 0) (v := .ref (a 28)) (C := RX0) (T := TX0) (N := 7) hx hb hts inT_X0 hown hK.1 hP 1 rfl rfl 4 (by decide) (hts _ k_298) (fun _ h9 => h9) rfl dX0_farther_26 ?_
      refine lv_iload hx hb dX0_farther_29 (lv_at hl 0 rfl) ?_
      refine eRi (va_runS (As := [.ref (a 28), .int (nI mm_6)]) (rest := []) ⟨hx, hb, hml, hown, hts⟩ (c_X0_lowerMedian_d3 l D cI cB cZ cJ tx a d3_5 mm_6 (lf_X0_farther_13 a dm d0 d1 d2 d3 d4 x1 x2 n3 hdm hx1 hx2 d3_5 mm_6 hmm_6 d4_11 mm_12 hmm_12) H.size) (zS hts k_960 v_X0_lowerMedian ⟨Nat.le_of_ble_eq_true rfl, Nat.le_of_ble_eq_true rfl⟩) (px1 hK hP 0 rfl) rfl rfl hl.1 rfl (lv_room (Nat.le_of_ble_eq_true rfl)) dX0_farther_31 ⟨Nat.le_of_ble_eq_true rfl, Nat.le_of_ble_eq_true rfl⟩) hP hS hA (fun r_14 H locs wr_14 hP hS => ?_)
      refine lv_istore (lv' := [(5, .int r_14), (4, .int (nI mm_6)), (0, .ref (a 6)), (1, .int (nI x1)), (2, .int (nI x2)), (3, .int n3)]) hx hb dX0_farther_34 hl (by decide) rfl (fun ls hl => ?_)
      refine lv_aload_n hx hb dX0_farther_36 rfl (lv_at hl 2 rfl) ?_
      refine va_get (D := D) (ci := 0) (v := .ref (a 29)) (C := RX0) (T := TX0) (N := 7) hx hb hts inT_X0 hown hK.1 hP 1 rfl rfl 5 (by decide) (hts _ k_299) (fun _ h9 => h9) rfl dX0_farther_37 ?_
      refine lv_iload hx hb dX0_farther_40 (lv_at hl 1 rfl) ?_
      refine eRi (va_runS (As := [.ref (a 29), .int (nI mm_6)]) (rest := []) ⟨hx, hb, hml, hown, hts⟩ (c_X0_lowerMedian_d4 l D cI cB cZ cJ tx a d4_11 mm_6 (lf_X0_farther_15 a dm d0 d1 d2 d3 d4 x1 x2 n3 hdm hx1 hx2 d3_5 mm_6 hmm_6 d4_11 mm_12 hmm_12 r_14) H.size) (zS hts k_960 v_X0_lowerMedian ⟨Nat.le_of_ble_eq_true rfl, Nat.le_of_ble_eq_true rfl⟩) (px1 hK hP 5 rfl) rfl rfl hl.1 rfl (lv_room (Nat.le_of_ble_eq_true rfl)) dX0_farther_42 ⟨Nat.le_of_ble_eq_true rfl, Nat.le_of_ble_eq_true rfl⟩) hP hS hA (fun r_16 H locs wr_16 hP hS => ?_)
      refine lv_istore (lv' := [(6, .int r_16), (5, .int r_14), (4, .int (nI mm_6)), (0, .ref (a 6)), (1, .int (nI x1)), (2, .int (nI x2)), (3, .int n3)]) hx hb dX0_farther_45 hl (by decide) rfl (fun ls hl => ?_)
      refine lv_iconst (v := 0) hx hb dX0_farther_47 (by decide) ?_
      refine lv_istore (lv' := [(7, .int 0), (6, .int r_16), (5, .int r_14), (4, .int (nI mm_6)), (0, .ref (a 6)), (1, .int (nI x1)), (2, .int (nI x2)), (3, .int n3)]) hx hb dX0_farther_48 hl (by decide) rfl (fun ls hl => ?_)
      refine lv_iconst (v := 0) hx hb dX0_farther_50 (by decide) ?_
      refine lv_istore (lv' := [(8, .int 0), (7, .int 0), (6, .int r_16), (5, .int r_14), (4, .int (nI mm_6)), (0, .ref (a 6)), (1, .int (nI x1)), (2, .int (nI x2)), (3, .int n3)]) hx hb dX0_farther_51 hl (by decide) rfl (fun ls hl => ?_)
      have lp53 : ∀ (k53 : Nat) (j1 : Nat) (w1 : Int32) (H : Heap) (locs : List Loc) (ls : Array Slot), j1 ≤ mm_6 → mm_6 < j1 + k53 → va_P D vwCl [(a 28, .inl (cI, 384, .inl d3_5)), (a 6, .inr (0, [.ref (a 5), .ref (a 25), .ref (a 26), .ref (a 27), .ref (a 28), .ref (a 29), .int (nI dm)])), (a 25, .inl (cI, 1536, .inl d0)), (a 26, .inl (cI, 1536, .inl d1)), (a 27, .inl (cZ, 1536, .inl d2)), (a 29, .inl (cI, 384, .inl d4_11))] H → va_D A [(a 28, .inl (cI, 384, .inl d3_5)), (a 6, .inr (0, [.ref (a 5), .ref (a 25), .ref (a 26), .ref (a 27), .ref (a 28), .ref (a 29), .int (nI dm)])), (a 25, .inl (cI, 1536, .inl d0)), (a 26, .inl (cI, 1536, .inl d1)), (a 27, .inl (cZ, 1536, .inl d2)), (a 29, .inl (cI, 384, .inl d4_11))] → va_S A s.heap H locs → lv_has ls 9 [(8, .int (nI j1)), (7, .int w1), (6, .int r_16), (5, .int r_14), (4, .int (nI mm_6)), (0, .ref (a 6)), (1, .int (nI x1)), (2, .int (nI x2)), (3, .int n3)] → W p l e (rmX 4 0 0) s m ([.ref (a 6), .int (nI x1), .int (nI x2), .int n3] : List Value).toArray below meth c H locs 0 0 (MQ below (va_Qi (fun (r : Int32) (v : (Nat → Int32) × (Nat → Int32)) => True) (fun u => BX D A ((fun v => [(a 6, .inr (0, [.ref (a 5), .ref (a 25), .ref (a 26), .ref (a 27), .ref (a 28), .ref (a 29), .int (nI dm)])), (a 25, .inl (cI, 1536, .inl d0)), (a 26, .inl (cI, 1536, .inl d1)), (a 27, .inl (cZ, 1536, .inl d2)), (a 28, .inl (cI, 384, .inl v.1)), (a 29, .inl (cI, 384, .inl v.2))]) u)) A) ([.ref (a 6), .int (nI x1), .int (nI x2), .int n3] : List Value).toArray s 0 0 A) (F0 m 53 ls []) := by
        intro k53
        induction k53 with
        | zero =>
          intro j1 w1 H locs ls hj53 hk53  hP hD hS hl
          exact absurd hk53 (by omega)
        | succ k53 ih53 =>
          intro j1 w1 H locs ls hj53 hk53  hP hD hS hl
          refine lv_iload hx hb dX0_farther_53 (lv_at hl 0 rfl) ?_
          refine lv_iload hx hb dX0_farther_55 (lv_at hl 4 rfl) ?_
          refine lv_icmp_ge (tgt := 103) hx hb dX0_farther_57 (by decide) (fun c_17 => ?_) (fun c_17 => ?_)
          · have n_18 : mm_6 ≤ j1 := (lf_X0_farther_19 a dm d0 d1 d2 d3 d4 x1 x2 n3 hdm hx1 hx2 d3_5 mm_6 hmm_6 d4_11 mm_12 hmm_12 r_14 r_16 j1 w1 k53 hj53 hk53 c_17)
            refine lv_iload hx hb dX0_farther_103 (lv_at hl 1 rfl) ?_
            have hP := hP.sub (ws' := [(a 6, .inr (0, [.ref (a 5), .ref (a 25), .ref (a 26), .ref (a 27), .ref (a 28), .ref (a 29), .int (nI dm)])), (a 25, .inl (cI, 1536, .inl d0)), (a 26, .inl (cI, 1536, .inl d1)), (a 27, .inl (cZ, 1536, .inl d2)), (a 28, .inl (cI, 384, .inl d3_5)), (a 29, .inl (cI, 384, .inl d4_11))]) [1, 2, 3, 4, 0, 5] rfl
            have hD := hD.sub (ws' := [(a 6, .inr (0, [.ref (a 5), .ref (a 25), .ref (a 26), .ref (a 27), .ref (a 28), .ref (a 29), .int (nI dm)])), (a 25, .inl (cI, 1536, .inl d0)), (a 26, .inl (cI, 1536, .inl d1)), (a 27, .inl (cZ, 1536, .inl d2)), (a 28, .inl (cI, 384, .inl d3_5)), (a 29, .inl (cI, 384, .inl d4_11))]) [1, 2, 3, 4, 0, 5] (by decide) rfl
            exact W.iret (v := w1) hx hb hr (fun tt9 ht hW => ⟨⟨(w1 : Int32), ((d3_5 : Nat → Int32), (d4_11 : Nat → Int32)), rfl, trivial, ⟨by rw [ht]; exact hP, hD⟩⟩, hS.F ht⟩) hS.2.2 dX0_farther_105 hlocks
          · have n_20 : j1 < mm_6 := (lf_X0_farther_21 a dm d0 d1 d2 d3 d4 x1 x2 n3 hdm hx1 hx2 d3_5 mm_6 hmm_6 d4_11 mm_12 hmm_12 r_14 r_16 j1 w1 k53 hj53 hk53 c_17)
            refine lv_aload_n hx hb dX0_farther_60 rfl (lv_at hl 5 rfl) ?_
            refine va_get (D := D) (ci := 0) (v := .ref (a 28)) (C := RX0) (T := TX0) (N := 7) hx hb hts inT_X0 hown hK.1 hP 1 rfl rfl 4 (by decide) (hts _ k_298) (fun _ h9 => h9) rfl dX0_farther_61 ?_
            refine lv_iload hx hb dX0_farther_64 (lv_at hl 0 rfl) ?_
            refine ld_i hx hb hK hP 0 rfl (lf_X0_farther_22 a dm d0 d1 d2 d3 d4 x1 x2 n3 hdm hx1 hx2 d3_5 mm_6 hmm_6 d4_11 mm_12 hmm_12 r_14 r_16 j1 w1 k53 hj53 hk53 c_17 n_20) dX0_farther_66 (fun x_23 => ?_)
            refine lv_iload hx hb dX0_farther_67 (lv_at hl 3 rfl) ?_
            refine lv_isub hx hb dX0_farther_69 ?_
            refine lv_topi (fun x_24 ex_24 => ?_)
            refine va_mabs hx hb (by rw [hml]; exact hl.1.symm) hown (hts _ k_970) (hts _ k_971) (hts _ k_131) (hts _ k_972) (Nat.le_of_ble_eq_true rfl) (Nat.le_of_ble_eq_true rfl) (Nat.le_of_ble_eq_true rfl) (Nat.le_of_ble_eq_true rfl) dX0_farther_70 ?_
            refine lv_topi (fun x_25 _ => ?_)
            refine lv_iload_n hx hb dX0_farther_73 rfl (lv_at hl 8 rfl) ?_
            refine lv_icmp_gt (tgt := 94) hx hb dX0_farther_74 (by decide) (fun c_26 => ?_) (fun c_26 => ?_)
            · obtain ⟨x_27, ex_27⟩ : ∃ z : Int32, z = w1 + Int32.ofInt 1 := ⟨_, rfl⟩
              refine lv_iinc (v := x_27) (lv' := [(7, .int x_27), (8, .int (nI j1)), (6, .int r_16), (5, .int r_14), (4, .int (nI mm_6)), (0, .ref (a 6)), (1, .int (nI x1)), (2, .int (nI x2)), (3, .int n3)]) hx hb dX0_farther_94 hl (k := 1) rfl (ex_27.symm) (by decide) rfl (fun ls hl => ?_)
              refine lv_iinc (v := nI (j1 + 1)) (lv' := [(8, .int (nI (j1 + 1))), (7, .int x_27), (6, .int r_16), (5, .int r_14), (4, .int (nI mm_6)), (0, .ref (a 6)), (1, .int (nI x1)), (2, .int (nI x2)), (3, .int n3)]) hx hb dX0_farther_97 hl (k := 1) rfl (nI_1 j1) (by decide) rfl (fun ls hl => ?_)
              refine lv_goto (tgt := 53) hx hb dX0_farther_100 (by decide) ?_
              exact ih53 (j1 + 1) x_27 H locs ls (by omega) (by omega)  (hP.sub [0, 1, 2, 3, 4, 5] rfl) (hD.sub [0, 1, 2, 3, 4, 5] (by decide) rfl) hS (lv_sub hl [0, 1, 2, 3, 4, 5, 6, 7, 8] rfl)
            · refine lv_aload_n hx hb dX0_farther_77 rfl (lv_at hl 5 rfl) ?_
              refine va_get (D := D) (ci := 0) (v := .ref (a 29)) (C := RX0) (T := TX0) (N := 7) hx hb hts inT_X0 hown hK.1 hP 1 rfl rfl 5 (by decide) (hts _ k_299) (fun _ h9 => h9) rfl dX0_farther_78 ?_
              refine lv_iload hx hb dX0_farther_81 (lv_at hl 0 rfl) ?_
              refine ld_i hx hb hK hP 5 rfl (lf_X0_farther_28 a dm d0 d1 d2 d3 d4 x1 x2 n3 hdm hx1 hx2 d3_5 mm_6 hmm_6 d4_11 mm_12 hmm_12 r_14 r_16 j1 w1 k53 hj53 hk53 c_17 n_20 x_23 x_24 ex_24 x_25 c_26) dX0_farther_83 (fun x_29 => ?_)
              refine lv_iload hx hb dX0_farther_84 (lv_at hl 2 rfl) ?_
              refine lv_isub hx hb dX0_farther_86 ?_
              refine lv_topi (fun x_30 ex_30 => ?_)
              refine va_mabs hx hb (by rw [hml]; exact hl.1.symm) hown (hts _ k_970) (hts _ k_971) (hts _ k_131) (hts _ k_972) (Nat.le_of_ble_eq_true rfl) (Nat.le_of_ble_eq_true rfl) (Nat.le_of_ble_eq_true rfl) (Nat.le_of_ble_eq_true rfl) dX0_farther_87 ?_
              refine lv_topi (fun x_31 _ => ?_)
              refine lv_iload_n hx hb dX0_farther_90 rfl (lv_at hl 8 rfl) ?_
              refine lv_icmp_le (tgt := 97) hx hb dX0_farther_91 (by decide) (fun c_32 => ?_) (fun c_32 => ?_)
              · refine lv_iinc (v := nI (j1 + 1)) (lv' := [(8, .int (nI (j1 + 1))), (7, .int w1), (6, .int r_16), (5, .int r_14), (4, .int (nI mm_6)), (0, .ref (a 6)), (1, .int (nI x1)), (2, .int (nI x2)), (3, .int n3)]) hx hb dX0_farther_97 hl (k := 0) rfl (nI_1 j1) (by decide) rfl (fun ls hl => ?_)
                refine lv_goto (tgt := 53) hx hb dX0_farther_100 (by decide) ?_
                exact ih53 (j1 + 1) w1 H locs ls (by omega) (by omega)  (hP.sub [0, 1, 2, 3, 4, 5] rfl) (hD.sub [0, 1, 2, 3, 4, 5] (by decide) rfl) hS (lv_sub hl [0, 1, 2, 3, 4, 5, 6, 7, 8] rfl)
              · obtain ⟨x_33, ex_33⟩ : ∃ z : Int32, z = w1 + Int32.ofInt 1 := ⟨_, rfl⟩
                refine lv_iinc (v := x_33) (lv' := [(7, .int x_33), (8, .int (nI j1)), (6, .int r_16), (5, .int r_14), (4, .int (nI mm_6)), (0, .ref (a 6)), (1, .int (nI x1)), (2, .int (nI x2)), (3, .int n3)]) hx hb dX0_farther_94 hl (k := 1) rfl (ex_33.symm) (by decide) rfl (fun ls hl => ?_)
                refine lv_iinc (v := nI (j1 + 1)) (lv' := [(8, .int (nI (j1 + 1))), (7, .int x_33), (6, .int r_16), (5, .int r_14), (4, .int (nI mm_6)), (0, .ref (a 6)), (1, .int (nI x1)), (2, .int (nI x2)), (3, .int n3)]) hx hb dX0_farther_97 hl (k := 1) rfl (nI_1 j1) (by decide) rfl (fun ls hl => ?_)
                refine lv_goto (tgt := 53) hx hb dX0_farther_100 (by decide) ?_
                exact ih53 (j1 + 1) x_33 H locs ls (by omega) (by omega)  (hP.sub [0, 1, 2, 3, 4, 5] rfl) (hD.sub [0, 1, 2, 3, 4, 5] (by decide) rfl) hS (lv_sub hl [0, 1, 2, 3, 4, 5, 6, 7, 8] rfl)
      exact lp53 (mm_6 + 1) 0 0 H locs ls (by omega) (by omega)  (hP.sub [0, 1, 2, 3, 4, 5] rfl) (hD.sub [0, 1, 2, 3, 4, 5] (by decide) rfl) hS (lv_sub hl [0, 1, 2, 3, 4, 5, 6, 7, 8] rfl)

theorem lf_X5_othersWith_3 (a : Nat → Nat) (zs : Nat) (zo : Nat) (zh : Nat) (zx : Nat) (sn : Nat) (sk : Nat) (scu : Int32) (sch : Int32) (g2 : Nat → Int32) (n1 : Int32) (j1 : Nat) (w1 : Int32) (k4 : Nat) (hj4 : j1 ≤ 384) (hk4 : 384 < j1 + (k4 + 1)) (c_1 : 384 ≤ nI j1) : 384 ≤ j1 := by
  exact (nI_leI (a := 384) (b := j1) (by omega) (by omega)).mp c_1
theorem lf_X5_othersWith_5 (a : Nat → Nat) (zs : Nat) (zo : Nat) (zh : Nat) (zx : Nat) (sn : Nat) (sk : Nat) (scu : Int32) (sch : Int32) (g2 : Nat → Int32) (n1 : Int32) (j1 : Nat) (w1 : Int32) (k4 : Nat) (hj4 : j1 ≤ 384) (hk4 : 384 < j1 + (k4 + 1)) (c_1 : ¬ 384 ≤ nI j1) : j1 < 384 := by
  exact Nat.lt_of_not_le (fun q => c_1 ((nI_leI (a := 384) (b := j1) (by omega) (by omega)).mpr q))
theorem lf_X5_othersWith_8 (a : Nat → Nat) (zs : Nat) (zo : Nat) (zh : Nat) (zx : Nat) (sn : Nat) (sk : Nat) (scu : Int32) (sch : Int32) (g2 : Nat → Int32) (n1 : Int32) (j1 : Nat) (w1 : Int32) (k4 : Nat) (hj4 : j1 ≤ 384) (hk4 : 384 < j1 + (k4 + 1)) (c_1 : ¬ 384 ≤ nI j1) (n_4 : j1 < 384) (c_6 : ¬ nI j1 = n1) : vp_in (nI j1) 384 := by
  first | exact vp_in_nI (by omega) (by decide) | (unfold vp_in; decide)
set_option maxHeartbeats 4000000 in
set_option maxRecDepth 100000 in
theorem c_X5_othersWith (l : Launch) (D : va_G) (cI cB cZ cJ : ClassId) (tx : List (ClassId × FieldType)) (a : Nat → Nat) (zs : Nat) (zo : Nat) (zh : Nat) (zx : Nat) (sn : Nat) (sk : Nat) (scu : Int32) (sch : Int32) (g2 : Nat → Int32) (n1 : Int32) : RdI l D cI cB cZ cJ tx yX5_othersWith cX5_othersWith 4 (some .int) 0 [.ref (a 9), .int n1] [(a 9, .inr (5, [.ref (a 5), .ref (a 45), .int (nI zs), .int (nI zo), .int (nI zh), .int (nI zx)])), (a 5, .inr (4, [.ref (a 18), .ref (a 19), .ref (a 20), .ref (a 21), .ref (a 22), .ref (a 23), .ref (a 24), .int (nI sn), .int (nI sk), .int scu, .int sch])), (a 20, .inl (cI, 384, .inl g2))] (fun r => True) := by
  refine rdi_of2 (by decide) (Nat.le_of_ble_eq_true rfl) ?_
  intro p e s m below meth c A ls H locs hC hK hP hD hA hS hl
  obtain ⟨hx, hb, hr, hml, hown, hts, hlocks, hin⟩ := hC
  have hown : s.vm.findClass RX5 = some m.cls := hown
  have hl : lv_has ls 4 [(0, .ref (a 9)), (1, .int n1)] := hl
  refine lv_iconst (v := 0) hx hb dX5_othersWith_0 (by decide) ?_
  refine lv_istore_n (lv' := [(2, .int 0), (0, .ref (a 9)), (1, .int n1)]) hx hb dX5_othersWith_1 rfl hl (by decide) rfl (fun ls hl => ?_)
  refine lv_iconst (v := 0) hx hb dX5_othersWith_2 (by decide) ?_
  refine lv_istore_n (lv' := [(3, .int 0), (2, .int 0), (0, .ref (a 9)), (1, .int n1)]) hx hb dX5_othersWith_3 rfl hl (by decide) rfl (fun ls hl => ?_)
  have lp4 : ∀ (k4 : Nat) (j1 : Nat) (w1 : Int32) (H : Heap) (locs : List Loc) (ls : Array Slot), j1 ≤ 384 → 384 < j1 + k4 → va_P D vwCl [(a 9, .inr (5, [.ref (a 5), .ref (a 45), .int (nI zs), .int (nI zo), .int (nI zh), .int (nI zx)])), (a 5, .inr (4, [.ref (a 18), .ref (a 19), .ref (a 20), .ref (a 21), .ref (a 22), .ref (a 23), .ref (a 24), .int (nI sn), .int (nI sk), .int scu, .int sch])), (a 20, .inl (cI, 384, .inl g2))] H → va_S A s.heap H locs → lv_has ls 4 [(3, .int (nI j1)), (2, .int w1), (0, .ref (a 9)), (1, .int n1)] → W p l e (rmX 0 0 0) s m ([.ref (a 9), .int n1] : List Value).toArray below meth c H locs 0 0 (MQ below (va_Qi (fun r (_ : Unit) => (fun r => True) r) (fun _ _ => True) A) ([.ref (a 9), .int n1] : List Value).toArray s 0 0 A) (F0 m 4 ls []) := by
    intro k4
    induction k4 with
    | zero =>
      intro j1 w1 H locs ls hj4 hk4  hP hS hl
      exact absurd hk4 (by omega)
    | succ k4 ih4 =>
      intro j1 w1 H locs ls hj4 hk4  hP hS hl
      refine lv_iload_n hx hb dX5_othersWith_4 rfl (lv_at hl 0 rfl) ?_
      refine lv_sipush (v := 384) hx hb dX5_othersWith_5 (by decide) ?_
      refine lv_icmp_ge (tgt := 42) hx hb dX5_othersWith_8 (by decide) (fun c_1 => ?_) (fun c_1 => ?_)
      · have n_2 : 384 ≤ j1 := (lf_X5_othersWith_3 a zs zo zh zx sn sk scu sch g2 n1 j1 w1 k4 hj4 hk4 c_1)
        refine lv_iload_n hx hb dX5_othersWith_42 rfl (lv_at hl 1 rfl) ?_
        exact W.iret (v := w1) hx hb hr (fun tt9 ht hW => ⟨⟨(w1 : Int32), (), rfl, trivial, trivial⟩, hS.F ht⟩) hS.2.2 dX5_othersWith_43 hlocks
      · have n_4 : j1 < 384 := (lf_X5_othersWith_5 a zs zo zh zx sn sk scu sch g2 n1 j1 w1 k4 hj4 hk4 c_1)
        refine lv_iload_n hx hb dX5_othersWith_11 rfl (lv_at hl 1 rfl) ?_
        refine lv_iload_n hx hb dX5_othersWith_12 rfl (lv_at hl 0 rfl) ?_
        refine lv_iload_n hx hb dX5_othersWith_13 rfl (lv_at hl 3 rfl) ?_
        refine lv_icmp_eq (tgt := 33) hx hb dX5_othersWith_14 (by decide) (fun c_6 => ?_) (fun c_6 => ?_)
        · refine lv_iconst (v := 0) hx hb dX5_othersWith_33 (by decide) ?_
          refine lv_iadd hx hb dX5_othersWith_34 ?_
          refine lv_topi (fun x_7 ex_7 => ?_)
          refine lv_istore_n (lv' := [(2, .int x_7), (3, .int (nI j1)), (0, .ref (a 9)), (1, .int n1)]) hx hb dX5_othersWith_35 rfl hl (by decide) rfl (fun ls hl => ?_)
          refine lv_iinc (v := nI (j1 + 1)) (lv' := [(3, .int (nI (j1 + 1))), (2, .int x_7), (0, .ref (a 9)), (1, .int n1)]) hx hb dX5_othersWith_36 hl (k := 1) rfl (nI_1 j1) (by decide) rfl (fun ls hl => ?_)
          refine lv_goto (tgt := 4) hx hb dX5_othersWith_39 (by decide) ?_
          exact ih4 (j1 + 1) x_7 H locs ls (by omega) (by omega)  (hP.sub [0, 1, 2] rfl)  hS (lv_sub hl [0, 1, 2, 3] rfl)
        · refine lv_aload_n hx hb dX5_othersWith_17 rfl (lv_at hl 2 rfl) ?_
          refine va_get (D := D) (ci := 5) (v := .ref (a 5)) (C := RX5) (T := TX5) (N := 6) hx hb hts inT_X5 hown hK.1 hP 0 rfl rfl 0 (by decide) (hts _ k_401) (fun _ h9 => h9) rfl dX5_othersWith_18 ?_
          refine va_getN (D := D) (ci := 4) (v := .ref (a 20)) (C := RX4) (T := TX4) (N := 11) hx hb hts inT_X4 hown hK.1 hP 1 rfl rfl 2 (by decide) (va_Nw.use rfl (hK.2.2.1 _ n_239)) (fun _ h9 => h9) rfl dX5_othersWith_21 ?_
          refine lv_iload_n hx hb dX5_othersWith_24 rfl (lv_at hl 0 rfl) ?_
          refine ld_i hx hb hK hP 2 rfl (lf_X5_othersWith_8 a zs zo zh zx sn sk scu sch g2 n1 j1 w1 k4 hj4 hk4 c_1 n_4 c_6) dX5_othersWith_25 (fun x_9 => ?_)
          refine lv_if_le (tgt := 33) hx hb dX5_othersWith_26 (by decide) (fun c_10 => ?_) (fun c_10 => ?_)
          · refine lv_iconst (v := 0) hx hb dX5_othersWith_33 (by decide) ?_
            refine lv_iadd hx hb dX5_othersWith_34 ?_
            refine lv_topi (fun x_11 ex_11 => ?_)
            refine lv_istore_n (lv' := [(2, .int x_11), (3, .int (nI j1)), (0, .ref (a 9)), (1, .int n1)]) hx hb dX5_othersWith_35 rfl hl (by decide) rfl (fun ls hl => ?_)
            refine lv_iinc (v := nI (j1 + 1)) (lv' := [(3, .int (nI (j1 + 1))), (2, .int x_11), (0, .ref (a 9)), (1, .int n1)]) hx hb dX5_othersWith_36 hl (k := 1) rfl (nI_1 j1) (by decide) rfl (fun ls hl => ?_)
            refine lv_goto (tgt := 4) hx hb dX5_othersWith_39 (by decide) ?_
            exact ih4 (j1 + 1) x_11 H locs ls (by omega) (by omega)  (hP.sub [0, 1, 2] rfl)  hS (lv_sub hl [0, 1, 2, 3] rfl)
          · refine lv_iconst (v := 1) hx hb dX5_othersWith_29 (by decide) ?_
            refine lv_goto (tgt := 34) hx hb dX5_othersWith_30 (by decide) ?_
            refine lv_iadd hx hb dX5_othersWith_34 ?_
            refine lv_topi (fun x_12 ex_12 => ?_)
            refine lv_istore_n (lv' := [(2, .int x_12), (3, .int (nI j1)), (0, .ref (a 9)), (1, .int n1)]) hx hb dX5_othersWith_35 rfl hl (by decide) rfl (fun ls hl => ?_)
            refine lv_iinc (v := nI (j1 + 1)) (lv' := [(3, .int (nI (j1 + 1))), (2, .int x_12), (0, .ref (a 9)), (1, .int n1)]) hx hb dX5_othersWith_36 hl (k := 1) rfl (nI_1 j1) (by decide) rfl (fun ls hl => ?_)
            refine lv_goto (tgt := 4) hx hb dX5_othersWith_39 (by decide) ?_
            exact ih4 (j1 + 1) x_12 H locs ls (by omega) (by omega)  (hP.sub [0, 1, 2] rfl)  hS (lv_sub hl [0, 1, 2, 3] rfl)
  exact lp4 (384 + 1) 0 0 H locs ls (by omega) (by omega)  (hP.sub [0, 1, 2] rfl)  hS (lv_sub hl [0, 1, 2, 3] rfl)
