theorem lf_X11_commonDivisor_3 (v1 : Int64) (v2 : Int64) (j : Nat) (q1 : Int64) (q2 : Int64) (k9 : Nat) (hj9 : j ≤ 100) (hk9 : 100 < j + (k9 + 1)) (c_1 : 100 ≤ nI j) : 100 ≤ j := by
  exact (nI_leI (a := 100) (b := j) (by omega) (by omega)).mp c_1
theorem lf_X11_commonDivisor_4 (v1 : Int64) (v2 : Int64) (j : Nat) (q1 : Int64) (q2 : Int64) (k9 : Nat) (hj9 : j ≤ 100) (hk9 : 100 < j + (k9 + 1)) (c_1 : 100 ≤ nI j) (n_2 : 100 ≤ j) : True := by
  first | trivial | omega
theorem lf_X11_commonDivisor_6 (v1 : Int64) (v2 : Int64) (j : Nat) (q1 : Int64) (q2 : Int64) (k9 : Nat) (hj9 : j ≤ 100) (hk9 : 100 < j + (k9 + 1)) (c_1 : ¬ 100 ≤ nI j) : j < 100 := by
  exact Nat.lt_of_not_le (fun q => c_1 ((nI_leI (a := 100) (b := j) (by omega) (by omega)).mpr q))
theorem lf_X11_commonDivisor_8 (v1 : Int64) (v2 : Int64) (j : Nat) (q1 : Int64) (q2 : Int64) (k9 : Nat) (hj9 : j ≤ 100) (hk9 : 100 < j + (k9 + 1)) (c_1 : ¬ 100 ≤ nI j) (n_5 : j < 100) (c_7 : lg_cmp q2 0 = 0) : True := by
  first | trivial | omega
theorem lf_X11_commonDivisor_9 (v1 : Int64) (v2 : Int64) (j : Nat) (q1 : Int64) (q2 : Int64) (k9 : Nat) (hj9 : j ≤ 100) (hk9 : 100 < j + (k9 + 1)) (c_1 : ¬ 100 ≤ nI j) (n_5 : j < 100) (c_7 : ¬ lg_cmp q2 0 = 0) : ¬ q2 = 0 := by
  exact fun q => absurd ((lg_cmp_eq _ _).mpr q) (by assumption)
set_option maxHeartbeats 4000000 in
set_option maxRecDepth 100000 in
theorem c_X11_commonDivisor (l : Launch) (D : va_G) (cI cB cZ cJ : ClassId) (tx : List (ClassId × FieldType)) (v1 : Int64) (v2 : Int64) : RdL l D cI cB cZ cJ tx yX11_commonDivisor cX11_commonDivisor 11 (some .long) 0 [.long v1, .long v2] [] (fun r => True) := by
  refine rdl_of2 (by decide) (Nat.le_of_ble_eq_true rfl) ?_
  intro p e s m below meth c A ls H locs hC hK hP hD hA hS hl
  obtain ⟨hx, hb, hr, hml, hown, hts, hlocks, hin⟩ := hC
  have hown : s.vm.findClass RX11 = some m.cls := hown
  have hl : lv_has ls 11 [(0, .long v1), (2, .long v2)] := hl
  refine lv_lload_n hx hb dX11_commonDivisor_0 rfl (lv_at hl 0 rfl) ?_
  refine lv_lstore (lv' := [(4, .long v1), (0, .long v1), (2, .long v2)]) hx hb dX11_commonDivisor_1 hl (by decide) rfl (fun ls hl => ?_)
  refine lv_lload_n hx hb dX11_commonDivisor_3 rfl (lv_at hl 2 rfl) ?_
  refine lv_lstore (lv' := [(6, .long v2), (4, .long v1), (0, .long v1), (2, .long v2)]) hx hb dX11_commonDivisor_4 hl (by decide) rfl (fun ls hl => ?_)
  refine lv_iconst (v := 0) hx hb dX11_commonDivisor_6 (by decide) ?_
  refine lv_istore (lv' := [(8, .int 0), (6, .long v2), (4, .long v1), (0, .long v1), (2, .long v2)]) hx hb dX11_commonDivisor_7 hl (by decide) rfl (fun ls hl => ?_)
  have lp9 : ∀ (k9 : Nat) (j : Nat) (q1 : Int64) (q2 : Int64) (H : Heap) (locs : List Loc) (ls : Array Slot), j ≤ 100 → 100 < j + k9 → va_P D vwCl [] H → va_S A s.heap H locs → lv_has ls 11 [(8, .int (nI j)), (6, .long q2), (4, .long q1), (0, .long v1), (2, .long v2)] → W p l e (rmX 0 0 0) s m ([.long v1, .long v2] : List Value).toArray below meth c H locs 0 0 (MQ below (va_Ql (fun r (_ : Unit) => (fun r => True) r) (fun _ _ => True) A) ([.long v1, .long v2] : List Value).toArray s 0 0 A) (F0 m 9 ls []) := by
    intro k9
    induction k9 with
    | zero =>
      intro j q1 q2 H locs ls hj9 hk9  hP hS hl
      exact absurd hk9 (by omega)
    | succ k9 ih9 =>
      intro j q1 q2 H locs ls hj9 hk9  hP hS hl
      refine lv_iload hx hb dX11_commonDivisor_9 (lv_at hl 0 rfl) ?_
      refine lv_bipush (v := 100) hx hb dX11_commonDivisor_11 (by decide) ?_
      refine lv_icmp_ge (tgt := 44) hx hb dX11_commonDivisor_13 (by decide) (fun c_1 => ?_) (fun c_1 => ?_)
      · have n_2 : 100 ≤ j := (lf_X11_commonDivisor_3 v1 v2 j q1 q2 k9 hj9 hk9 c_1)
        refine lv_lload hx hb dX11_commonDivisor_44 (lv_at hl 2 rfl) ?_
        exact W.lret (v := q1) hx hb hr (fun tt9 ht hW => ⟨⟨(q1 : Int64), (), rfl, (lf_X11_commonDivisor_4 v1 v2 j q1 q2 k9 hj9 hk9 c_1 n_2), trivial⟩, hS.F ht⟩) hS.2.2 dX11_commonDivisor_46 hlocks
      · have n_5 : j < 100 := (lf_X11_commonDivisor_6 v1 v2 j q1 q2 k9 hj9 hk9 c_1)
        refine lv_lload hx hb dX11_commonDivisor_16 (lv_at hl 1 rfl) ?_
        refine lv_lconst (v := 0) hx hb dX11_commonDivisor_18 (by decide) ?_
        refine W.lcmp hx hb dX11_commonDivisor_19 ?_
        refine lv_if_eq (tgt := 44) hx hb dX11_commonDivisor_20 (by decide) (fun c_7 => ?_) (fun c_7 => ?_)
        · refine lv_lload hx hb dX11_commonDivisor_44 (lv_at hl 2 rfl) ?_
          exact W.lret (v := q1) hx hb hr (fun tt9 ht hW => ⟨⟨(q1 : Int64), (), rfl, (lf_X11_commonDivisor_8 v1 v2 j q1 q2 k9 hj9 hk9 c_1 n_5 c_7), trivial⟩, hS.F ht⟩) hS.2.2 dX11_commonDivisor_46 hlocks
        · refine lv_lload hx hb dX11_commonDivisor_23 (lv_at hl 2 rfl) ?_
          refine lv_lload hx hb dX11_commonDivisor_25 (lv_at hl 1 rfl) ?_
          refine lv_lrem hx hb dX11_commonDivisor_27 (lf_X11_commonDivisor_9 v1 v2 j q1 q2 k9 hj9 hk9 c_1 n_5 c_7) ?_
          refine lv_topl (fun x_10 _ => ?_)
          refine lv_lstore (lv' := [(9, .long x_10), (8, .int (nI j)), (6, .long q2), (4, .long q1), (0, .long v1), (2, .long v2)]) hx hb dX11_commonDivisor_28 hl (by decide) rfl (fun ls hl => ?_)
          refine lv_lload hx hb dX11_commonDivisor_30 (lv_at hl 2 rfl) ?_
          refine lv_lstore (lv' := [(4, .long q2), (9, .long x_10), (8, .int (nI j)), (6, .long q2), (0, .long v1), (2, .long v2)]) hx hb dX11_commonDivisor_32 hl (by decide) rfl (fun ls hl => ?_)
          refine lv_lload hx hb dX11_commonDivisor_34 (lv_at hl 1 rfl) ?_
          refine lv_lstore (lv' := [(6, .long x_10), (4, .long q2), (9, .long x_10), (8, .int (nI j)), (0, .long v1), (2, .long v2)]) hx hb dX11_commonDivisor_36 hl (by decide) rfl (fun ls hl => ?_)
          refine lv_iinc (v := nI (j + 1)) (lv' := [(8, .int (nI (j + 1))), (6, .long x_10), (4, .long q2), (9, .long x_10), (0, .long v1), (2, .long v2)]) hx hb dX11_commonDivisor_38 hl (k := 3) rfl (nI_1 j) (by decide) rfl (fun ls hl => ?_)
          refine lv_goto (tgt := 9) hx hb dX11_commonDivisor_41 (by decide) ?_
          exact ih9 (j + 1) q2 x_10 H locs ls (by omega) (by omega)  (hP.sub [] rfl)  hS (lv_sub hl [0, 1, 2, 4, 5] rfl)
  exact lp9 (100 + 1) 0 v1 v2 H locs ls (by omega) (by omega)  (hP.sub [] rfl)  hS (lv_sub hl [0, 1, 2, 3, 4] rfl)

theorem lf_X11_reduced_4 (v1 : Int64) (v2 : Int64) (n1 : Int32) (r_1 : Int64) (c_2 : n1 = 0) (c_3 : ¬ lg_cmp r_1 0 = 0) : ¬ r_1 = 0 := by
  exact fun q => absurd ((lg_cmp_eq _ _).mpr q) (by assumption)
theorem lf_X11_reduced_6 (v1 : Int64) (v2 : Int64) (n1 : Int32) (r_1 : Int64) (c_2 : n1 = 0) (c_3 : ¬ lg_cmp r_1 0 = 0) (x_5 : Int64) : True := by
  first | trivial | omega
theorem lf_X11_reduced_7 (v1 : Int64) (v2 : Int64) (n1 : Int32) (r_1 : Int64) (c_2 : n1 = 0) (c_3 : lg_cmp r_1 0 = 0) : True := by
  first | trivial | omega
theorem lf_X11_reduced_9 (v1 : Int64) (v2 : Int64) (n1 : Int32) (r_1 : Int64) (c_2 : ¬ n1 = 0) (c_8 : ¬ lg_cmp r_1 0 = 0) : ¬ r_1 = 0 := by
  exact fun q => absurd ((lg_cmp_eq _ _).mpr q) (by assumption)
theorem lf_X11_reduced_11 (v1 : Int64) (v2 : Int64) (n1 : Int32) (r_1 : Int64) (c_2 : ¬ n1 = 0) (c_8 : ¬ lg_cmp r_1 0 = 0) (x_10 : Int64) : True := by
  first | trivial | omega
theorem lf_X11_reduced_12 (v1 : Int64) (v2 : Int64) (n1 : Int32) (r_1 : Int64) (c_2 : ¬ n1 = 0) (c_8 : lg_cmp r_1 0 = 0) : True := by
  first | trivial | omega
set_option maxHeartbeats 4000000 in
set_option maxRecDepth 100000 in
theorem c_X11_reduced (l : Launch) (D : va_G) (cI cB cZ cJ : ClassId) (tx : List (ClassId × FieldType)) (v1 : Int64) (v2 : Int64) (n1 : Int32) : RdL l D cI cB cZ cJ tx yX11_reduced cX11_reduced 9 (some .long) 1 [.long v1, .long v2, .int n1] [] (fun r => True) := by
  refine rdl_of2 (by decide) (Nat.le_of_ble_eq_true rfl) ?_
  intro p e s m below meth c A ls H locs hC hK hP hD hA hS hl
  obtain ⟨hx, hb, hr, hml, hown, hts, hlocks, hin⟩ := hC
  have hown : s.vm.findClass RX11 = some m.cls := hown
  have hl : lv_has ls 9 [(0, .long v1), (2, .long v2), (4, .int n1)] := hl
  refine lv_lload_n hx hb dX11_reduced_0 rfl (lv_at hl 0 rfl) ?_
  refine lv_lload_n hx hb dX11_reduced_1 rfl (lv_at hl 1 rfl) ?_
  refine eRl (va_runS (As := [.long v1, .long v2]) (rest := []) ⟨hx, hb, hml, hown, hts⟩ (c_X11_commonDivisor l D cI cB cZ cJ tx v1 v2 H.size) (zS hts k_1106 v_X11_commonDivisor ⟨Nat.le_of_ble_eq_true rfl, Nat.le_of_ble_eq_true rfl⟩) (px0 hK) rfl rfl hl.1 rfl (lv_room (Nat.le_of_ble_eq_true rfl)) dX11_reduced_2 ⟨Nat.le_of_ble_eq_true rfl, Nat.le_of_ble_eq_true rfl⟩) hP hS hA (fun r_1 H locs wr_1 hP hS => ?_)
  refine lv_lstore (lv' := [(5, .long r_1), (0, .long v1), (2, .long v2), (4, .int n1)]) hx hb dX11_reduced_5 hl (by decide) rfl (fun ls hl => ?_)
  refine lv_iload hx hb dX11_reduced_7 (lv_at hl 3 rfl) ?_
  refine lv_if_eq (tgt := 16) hx hb dX11_reduced_9 (by decide) (fun c_2 => ?_) (fun c_2 => ?_)
  · refine lv_lload_n hx hb dX11_reduced_16 rfl (lv_at hl 2 rfl) ?_
    refine lv_lstore (lv' := [(7, .long v2), (5, .long r_1), (0, .long v1), (2, .long v2), (4, .int n1)]) hx hb dX11_reduced_17 hl (by decide) rfl (fun ls hl => ?_)
    refine lv_lload hx hb dX11_reduced_19 (lv_at hl 1 rfl) ?_
    refine lv_lconst (v := 0) hx hb dX11_reduced_21 (by decide) ?_
    refine W.lcmp hx hb dX11_reduced_22 ?_
    refine lv_if_ne (tgt := 31) hx hb dX11_reduced_23 (by decide) (fun c_3 => ?_) (fun c_3 => ?_)
    · refine lv_lload hx hb dX11_reduced_31 (lv_at hl 0 rfl) ?_
      refine lv_lload hx hb dX11_reduced_33 (lv_at hl 1 rfl) ?_
      refine lv_ldiv hx hb dX11_reduced_35 (lf_X11_reduced_4 v1 v2 n1 r_1 c_2 c_3) ?_
      refine lv_topl (fun x_5 _ => ?_)
      exact W.lret (v := x_5) hx hb hr (fun tt9 ht hW => ⟨⟨(x_5 : Int64), (), rfl, (lf_X11_reduced_6 v1 v2 n1 r_1 c_2 c_3 x_5), trivial⟩, hS.F ht⟩) hS.2.2 dX11_reduced_36 hlocks
    · refine lv_lload hx hb dX11_reduced_26 (lv_at hl 0 rfl) ?_
      refine lv_goto (tgt := 36) hx hb dX11_reduced_28 (by decide) ?_
      exact W.lret (v := v2) hx hb hr (fun tt9 ht hW => ⟨⟨(v2 : Int64), (), rfl, (lf_X11_reduced_7 v1 v2 n1 r_1 c_2 c_3), trivial⟩, hS.F ht⟩) hS.2.2 dX11_reduced_36 hlocks
  · refine lv_lload_n hx hb dX11_reduced_12 rfl (lv_at hl 1 rfl) ?_
    refine lv_goto (tgt := 17) hx hb dX11_reduced_13 (by decide) ?_
    refine lv_lstore (lv' := [(7, .long v1), (5, .long r_1), (0, .long v1), (2, .long v2), (4, .int n1)]) hx hb dX11_reduced_17 hl (by decide) rfl (fun ls hl => ?_)
    refine lv_lload hx hb dX11_reduced_19 (lv_at hl 1 rfl) ?_
    refine lv_lconst (v := 0) hx hb dX11_reduced_21 (by decide) ?_
    refine W.lcmp hx hb dX11_reduced_22 ?_
    refine lv_if_ne (tgt := 31) hx hb dX11_reduced_23 (by decide) (fun c_8 => ?_) (fun c_8 => ?_)
    · refine lv_lload hx hb dX11_reduced_31 (lv_at hl 0 rfl) ?_
      refine lv_lload hx hb dX11_reduced_33 (lv_at hl 1 rfl) ?_
      refine lv_ldiv hx hb dX11_reduced_35 (lf_X11_reduced_9 v1 v2 n1 r_1 c_2 c_8) ?_
      refine lv_topl (fun x_10 _ => ?_)
      exact W.lret (v := x_10) hx hb hr (fun tt9 ht hW => ⟨⟨(x_10 : Int64), (), rfl, (lf_X11_reduced_11 v1 v2 n1 r_1 c_2 c_8 x_10), trivial⟩, hS.F ht⟩) hS.2.2 dX11_reduced_36 hlocks
    · refine lv_lload hx hb dX11_reduced_26 (lv_at hl 0 rfl) ?_
      refine lv_goto (tgt := 36) hx hb dX11_reduced_28 (by decide) ?_
      exact W.lret (v := v1) hx hb hr (fun tt9 ht hW => ⟨⟨(v1 : Int64), (), rfl, (lf_X11_reduced_12 v1 v2 n1 r_1 c_2 c_8), trivial⟩, hS.F ht⟩) hS.2.2 dX11_reduced_36 hlocks

theorem lf_X11_pair_3 (a : Nat → Nat) (ap : Int32) (sn : Nat) (sk : Nat) (scu : Int32) (sch : Int32) (ot : Nat → Int32) (n1 : Int32) (n2 : Int32) (hsn : sn ≤ 24) (hsk : sk ≤ 8) (c_2 : (0 : Int32) ≤ n1 ∧ n1 ≤ nI sn - 1) : sn < 2 ^ 31 := by
  omega
theorem lf_X11_pair_6 (a : Nat → Nat) (ap : Int32) (sn : Nat) (sk : Nat) (scu : Int32) (sch : Int32) (ot : Nat → Int32) (n1 : Int32) (n2 : Int32) (hsn : sn ≤ 24) (hsk : sk ≤ 8) (c_2 : (0 : Int32) ≤ n1 ∧ n1 ≤ nI sn - 1) (tn1 : Nat) (tn1a : tn1 < sn) (tn1e : n1 = nI tn1) (c_5 : (0 : Int32) ≤ n2 ∧ n2 ≤ 1) (tn2 : Nat) (tn2a : 0 ≤ tn2) (tn2b : tn2 ≤ 1) (tn2e : n2 = nI tn2) : sn ≤ 24 := by
  first | assumption | omega | decide
theorem lf_X11_pair_7 (a : Nat → Nat) (ap : Int32) (sn : Nat) (sk : Nat) (scu : Int32) (sch : Int32) (ot : Nat → Int32) (n1 : Int32) (n2 : Int32) (hsn : sn ≤ 24) (hsk : sk ≤ 8) (c_2 : (0 : Int32) ≤ n1 ∧ n1 ≤ nI sn - 1) (tn1 : Nat) (tn1a : tn1 < sn) (tn1e : n1 = nI tn1) (c_5 : (0 : Int32) ≤ n2 ∧ n2 ≤ 1) (tn2 : Nat) (tn2a : 0 ≤ tn2) (tn2b : tn2 ≤ 1) (tn2e : n2 = nI tn2) : sk ≤ 8 := by
  first | assumption | omega | decide
theorem lf_X11_pair_10 (a : Nat → Nat) (ap : Int32) (sn : Nat) (sk : Nat) (scu : Int32) (sch : Int32) (ot : Nat → Int32) (n1 : Int32) (n2 : Int32) (hsn : sn ≤ 24) (hsk : sk ≤ 8) (c_2 : (0 : Int32) ≤ n1 ∧ n1 ≤ nI sn - 1) (tn1 : Nat) (tn1a : tn1 < sn) (tn1e : n1 = nI tn1) (c_5 : (0 : Int32) ≤ n2 ∧ n2 ≤ 1) (tn2 : Nat) (tn2a : 0 ≤ tn2) (tn2b : tn2 ≤ 1) (tn2e : n2 = nI tn2) (r_8 : Int32) (c_9 : ¬ r_8 = 0) : sn ≤ 24 := by
  first | assumption | omega | decide
theorem lf_X11_pair_11 (a : Nat → Nat) (ap : Int32) (sn : Nat) (sk : Nat) (scu : Int32) (sch : Int32) (ot : Nat → Int32) (n1 : Int32) (n2 : Int32) (hsn : sn ≤ 24) (hsk : sk ≤ 8) (c_2 : (0 : Int32) ≤ n1 ∧ n1 ≤ nI sn - 1) (tn1 : Nat) (tn1a : tn1 < sn) (tn1e : n1 = nI tn1) (c_5 : (0 : Int32) ≤ n2 ∧ n2 ≤ 1) (tn2 : Nat) (tn2a : 0 ≤ tn2) (tn2b : tn2 ≤ 1) (tn2e : n2 = nI tn2) (r_8 : Int32) (c_9 : ¬ r_8 = 0) : sk ≤ 8 := by
  first | assumption | omega | decide
theorem lf_X11_pair_12 (a : Nat → Nat) (ap : Int32) (sn : Nat) (sk : Nat) (scu : Int32) (sch : Int32) (ot : Nat → Int32) (n1 : Int32) (n2 : Int32) (hsn : sn ≤ 24) (hsk : sk ≤ 8) (c_2 : (0 : Int32) ≤ n1 ∧ n1 ≤ nI sn - 1) (tn1 : Nat) (tn1a : tn1 < sn) (tn1e : n1 = nI tn1) (c_5 : (0 : Int32) ≤ n2 ∧ n2 ≤ 1) (tn2 : Nat) (tn2a : 0 ≤ tn2) (tn2b : tn2 ≤ 1) (tn2e : n2 = nI tn2) (r_8 : Int32) (c_9 : ¬ r_8 = 0) : tn1 < 24 := by
  first | assumption | omega | decide
theorem lf_X11_pair_13 (a : Nat → Nat) (ap : Int32) (sn : Nat) (sk : Nat) (scu : Int32) (sch : Int32) (ot : Nat → Int32) (n1 : Int32) (n2 : Int32) (hsn : sn ≤ 24) (hsk : sk ≤ 8) (c_2 : (0 : Int32) ≤ n1 ∧ n1 ≤ nI sn - 1) (tn1 : Nat) (tn1a : tn1 < sn) (tn1e : n1 = nI tn1) (c_5 : (0 : Int32) ≤ n2 ∧ n2 ≤ 1) (tn2 : Nat) (tn2a : 0 ≤ tn2) (tn2b : tn2 ≤ 1) (tn2e : n2 = nI tn2) (r_8 : Int32) (c_9 : ¬ r_8 = 0) : 0 < 2 := by
  first | assumption | omega | decide
theorem lf_X11_pair_15 (a : Nat → Nat) (ap : Int32) (sn : Nat) (sk : Nat) (scu : Int32) (sch : Int32) (ot : Nat → Int32) (n1 : Int32) (n2 : Int32) (hsn : sn ≤ 24) (hsk : sk ≤ 8) (c_2 : (0 : Int32) ≤ n1 ∧ n1 ≤ nI sn - 1) (tn1 : Nat) (tn1a : tn1 < sn) (tn1e : n1 = nI tn1) (c_5 : (0 : Int32) ≤ n2 ∧ n2 ≤ 1) (tn2 : Nat) (tn2a : 0 ≤ tn2) (tn2b : tn2 ≤ 1) (tn2e : n2 = nI tn2) (r_8 : Int32) (c_9 : ¬ r_8 = 0) (r_14 : Int32) : sn ≤ 24 := by
  first | assumption | omega | decide
theorem lf_X11_pair_16 (a : Nat → Nat) (ap : Int32) (sn : Nat) (sk : Nat) (scu : Int32) (sch : Int32) (ot : Nat → Int32) (n1 : Int32) (n2 : Int32) (hsn : sn ≤ 24) (hsk : sk ≤ 8) (c_2 : (0 : Int32) ≤ n1 ∧ n1 ≤ nI sn - 1) (tn1 : Nat) (tn1a : tn1 < sn) (tn1e : n1 = nI tn1) (c_5 : (0 : Int32) ≤ n2 ∧ n2 ≤ 1) (tn2 : Nat) (tn2a : 0 ≤ tn2) (tn2b : tn2 ≤ 1) (tn2e : n2 = nI tn2) (r_8 : Int32) (c_9 : ¬ r_8 = 0) (r_14 : Int32) : sk ≤ 8 := by
  first | assumption | omega | decide
theorem lf_X11_pair_17 (a : Nat → Nat) (ap : Int32) (sn : Nat) (sk : Nat) (scu : Int32) (sch : Int32) (ot : Nat → Int32) (n1 : Int32) (n2 : Int32) (hsn : sn ≤ 24) (hsk : sk ≤ 8) (c_2 : (0 : Int32) ≤ n1 ∧ n1 ≤ nI sn - 1) (tn1 : Nat) (tn1a : tn1 < sn) (tn1e : n1 = nI tn1) (c_5 : (0 : Int32) ≤ n2 ∧ n2 ≤ 1) (tn2 : Nat) (tn2a : 0 ≤ tn2) (tn2b : tn2 ≤ 1) (tn2e : n2 = nI tn2) (r_8 : Int32) (c_9 : ¬ r_8 = 0) (r_14 : Int32) : tn1 < 24 := by
  first | assumption | omega | decide
theorem lf_X11_pair_18 (a : Nat → Nat) (ap : Int32) (sn : Nat) (sk : Nat) (scu : Int32) (sch : Int32) (ot : Nat → Int32) (n1 : Int32) (n2 : Int32) (hsn : sn ≤ 24) (hsk : sk ≤ 8) (c_2 : (0 : Int32) ≤ n1 ∧ n1 ≤ nI sn - 1) (tn1 : Nat) (tn1a : tn1 < sn) (tn1e : n1 = nI tn1) (c_5 : (0 : Int32) ≤ n2 ∧ n2 ≤ 1) (tn2 : Nat) (tn2a : 0 ≤ tn2) (tn2b : tn2 ≤ 1) (tn2e : n2 = nI tn2) (r_8 : Int32) (c_9 : ¬ r_8 = 0) (r_14 : Int32) : 1 < 2 := by
  first | assumption | omega | decide
theorem lf_X11_pair_21 (a : Nat → Nat) (ap : Int32) (sn : Nat) (sk : Nat) (scu : Int32) (sch : Int32) (ot : Nat → Int32) (n1 : Int32) (n2 : Int32) (hsn : sn ≤ 24) (hsk : sk ≤ 8) (c_2 : (0 : Int32) ≤ n1 ∧ n1 ≤ nI sn - 1) (tn1 : Nat) (tn1a : tn1 < sn) (tn1e : n1 = nI tn1) (c_5 : (0 : Int32) ≤ n2 ∧ n2 ≤ 1) (tn2 : Nat) (tn2a : 0 ≤ tn2) (tn2b : tn2 ≤ 1) (tn2e : n2 = nI tn2) (r_8 : Int32) (c_9 : ¬ r_8 = 0) (r_14 : Int32) (r_19 : Int32) (x_20 : Int64) (ex_20 : x_20 = r_14.toInt64 * r_19.toInt64) : sn ≤ 24 := by
  first | assumption | omega | decide
theorem lf_X11_pair_22 (a : Nat → Nat) (ap : Int32) (sn : Nat) (sk : Nat) (scu : Int32) (sch : Int32) (ot : Nat → Int32) (n1 : Int32) (n2 : Int32) (hsn : sn ≤ 24) (hsk : sk ≤ 8) (c_2 : (0 : Int32) ≤ n1 ∧ n1 ≤ nI sn - 1) (tn1 : Nat) (tn1a : tn1 < sn) (tn1e : n1 = nI tn1) (c_5 : (0 : Int32) ≤ n2 ∧ n2 ≤ 1) (tn2 : Nat) (tn2a : 0 ≤ tn2) (tn2b : tn2 ≤ 1) (tn2e : n2 = nI tn2) (r_8 : Int32) (c_9 : ¬ r_8 = 0) (r_14 : Int32) (r_19 : Int32) (x_20 : Int64) (ex_20 : x_20 = r_14.toInt64 * r_19.toInt64) : sk ≤ 8 := by
  first | assumption | omega | decide
theorem lf_X11_pair_23 (a : Nat → Nat) (ap : Int32) (sn : Nat) (sk : Nat) (scu : Int32) (sch : Int32) (ot : Nat → Int32) (n1 : Int32) (n2 : Int32) (hsn : sn ≤ 24) (hsk : sk ≤ 8) (c_2 : (0 : Int32) ≤ n1 ∧ n1 ≤ nI sn - 1) (tn1 : Nat) (tn1a : tn1 < sn) (tn1e : n1 = nI tn1) (c_5 : (0 : Int32) ≤ n2 ∧ n2 ≤ 1) (tn2 : Nat) (tn2a : 0 ≤ tn2) (tn2b : tn2 ≤ 1) (tn2e : n2 = nI tn2) (r_8 : Int32) (c_9 : ¬ r_8 = 0) (r_14 : Int32) (r_19 : Int32) (x_20 : Int64) (ex_20 : x_20 = r_14.toInt64 * r_19.toInt64) : tn1 < 24 := by
  first | assumption | omega | decide
theorem lf_X11_pair_24 (a : Nat → Nat) (ap : Int32) (sn : Nat) (sk : Nat) (scu : Int32) (sch : Int32) (ot : Nat → Int32) (n1 : Int32) (n2 : Int32) (hsn : sn ≤ 24) (hsk : sk ≤ 8) (c_2 : (0 : Int32) ≤ n1 ∧ n1 ≤ nI sn - 1) (tn1 : Nat) (tn1a : tn1 < sn) (tn1e : n1 = nI tn1) (c_5 : (0 : Int32) ≤ n2 ∧ n2 ≤ 1) (tn2 : Nat) (tn2a : 0 ≤ tn2) (tn2b : tn2 ≤ 1) (tn2e : n2 = nI tn2) (r_8 : Int32) (c_9 : ¬ r_8 = 0) (r_14 : Int32) (r_19 : Int32) (x_20 : Int64) (ex_20 : x_20 = r_14.toInt64 * r_19.toInt64) : 0 < 2 := by
  first | assumption | omega | decide
theorem lf_X11_pair_26 (a : Nat → Nat) (ap : Int32) (sn : Nat) (sk : Nat) (scu : Int32) (sch : Int32) (ot : Nat → Int32) (n1 : Int32) (n2 : Int32) (hsn : sn ≤ 24) (hsk : sk ≤ 8) (c_2 : (0 : Int32) ≤ n1 ∧ n1 ≤ nI sn - 1) (tn1 : Nat) (tn1a : tn1 < sn) (tn1e : n1 = nI tn1) (c_5 : (0 : Int32) ≤ n2 ∧ n2 ≤ 1) (tn2 : Nat) (tn2a : 0 ≤ tn2) (tn2b : tn2 ≤ 1) (tn2e : n2 = nI tn2) (r_8 : Int32) (c_9 : ¬ r_8 = 0) (r_14 : Int32) (r_19 : Int32) (x_20 : Int64) (ex_20 : x_20 = r_14.toInt64 * r_19.toInt64) (r_25 : Int32) : sn ≤ 24 := by
  first | assumption | omega | decide
theorem lf_X11_pair_27 (a : Nat → Nat) (ap : Int32) (sn : Nat) (sk : Nat) (scu : Int32) (sch : Int32) (ot : Nat → Int32) (n1 : Int32) (n2 : Int32) (hsn : sn ≤ 24) (hsk : sk ≤ 8) (c_2 : (0 : Int32) ≤ n1 ∧ n1 ≤ nI sn - 1) (tn1 : Nat) (tn1a : tn1 < sn) (tn1e : n1 = nI tn1) (c_5 : (0 : Int32) ≤ n2 ∧ n2 ≤ 1) (tn2 : Nat) (tn2a : 0 ≤ tn2) (tn2b : tn2 ≤ 1) (tn2e : n2 = nI tn2) (r_8 : Int32) (c_9 : ¬ r_8 = 0) (r_14 : Int32) (r_19 : Int32) (x_20 : Int64) (ex_20 : x_20 = r_14.toInt64 * r_19.toInt64) (r_25 : Int32) : sk ≤ 8 := by
  first | assumption | omega | decide
theorem lf_X11_pair_28 (a : Nat → Nat) (ap : Int32) (sn : Nat) (sk : Nat) (scu : Int32) (sch : Int32) (ot : Nat → Int32) (n1 : Int32) (n2 : Int32) (hsn : sn ≤ 24) (hsk : sk ≤ 8) (c_2 : (0 : Int32) ≤ n1 ∧ n1 ≤ nI sn - 1) (tn1 : Nat) (tn1a : tn1 < sn) (tn1e : n1 = nI tn1) (c_5 : (0 : Int32) ≤ n2 ∧ n2 ≤ 1) (tn2 : Nat) (tn2a : 0 ≤ tn2) (tn2b : tn2 ≤ 1) (tn2e : n2 = nI tn2) (r_8 : Int32) (c_9 : ¬ r_8 = 0) (r_14 : Int32) (r_19 : Int32) (x_20 : Int64) (ex_20 : x_20 = r_14.toInt64 * r_19.toInt64) (r_25 : Int32) : tn1 < 24 := by
  first | assumption | omega | decide
theorem lf_X11_pair_29 (a : Nat → Nat) (ap : Int32) (sn : Nat) (sk : Nat) (scu : Int32) (sch : Int32) (ot : Nat → Int32) (n1 : Int32) (n2 : Int32) (hsn : sn ≤ 24) (hsk : sk ≤ 8) (c_2 : (0 : Int32) ≤ n1 ∧ n1 ≤ nI sn - 1) (tn1 : Nat) (tn1a : tn1 < sn) (tn1e : n1 = nI tn1) (c_5 : (0 : Int32) ≤ n2 ∧ n2 ≤ 1) (tn2 : Nat) (tn2a : 0 ≤ tn2) (tn2b : tn2 ≤ 1) (tn2e : n2 = nI tn2) (r_8 : Int32) (c_9 : ¬ r_8 = 0) (r_14 : Int32) (r_19 : Int32) (x_20 : Int64) (ex_20 : x_20 = r_14.toInt64 * r_19.toInt64) (r_25 : Int32) : 1 < 2 := by
  first | assumption | omega | decide
theorem lf_X11_pair_34 (a : Nat → Nat) (ap : Int32) (sn : Nat) (sk : Nat) (scu : Int32) (sch : Int32) (ot : Nat → Int32) (n1 : Int32) (n2 : Int32) (hsn : sn ≤ 24) (hsk : sk ≤ 8) (c_2 : (0 : Int32) ≤ n1 ∧ n1 ≤ nI sn - 1) (tn1 : Nat) (tn1a : tn1 < sn) (tn1e : n1 = nI tn1) (c_5 : (0 : Int32) ≤ n2 ∧ n2 ≤ 1) (tn2 : Nat) (tn2a : 0 ≤ tn2) (tn2b : tn2 ≤ 1) (tn2e : n2 = nI tn2) (r_8 : Int32) (c_9 : ¬ r_8 = 0) (r_14 : Int32) (r_19 : Int32) (x_20 : Int64) (ex_20 : x_20 = r_14.toInt64 * r_19.toInt64) (r_25 : Int32) (r_30 : Int32) (x_31 : Int64) (ex_31 : x_31 = r_25.toInt64 * r_30.toInt64) (c_32 : ¬ nI tn2 = 0) : tn2 ≠ 0 := by
  exact fun q => c_32 ((nI_eq (a := tn2) (b := 0) (by omega) (by omega)).mpr q)
theorem lf_X11_pair_37 (a : Nat → Nat) (ap : Int32) (sn : Nat) (sk : Nat) (scu : Int32) (sch : Int32) (ot : Nat → Int32) (n1 : Int32) (n2 : Int32) (hsn : sn ≤ 24) (hsk : sk ≤ 8) (c_2 : (0 : Int32) ≤ n1 ∧ n1 ≤ nI sn - 1) (tn1 : Nat) (tn1a : tn1 < sn) (tn1e : n1 = nI tn1) (c_5 : (0 : Int32) ≤ n2 ∧ n2 ≤ 1) (tn2 : Nat) (tn2a : 0 ≤ tn2) (tn2b : tn2 ≤ 1) (tn2e : n2 = nI tn2) (r_8 : Int32) (c_9 : ¬ r_8 = 0) (r_14 : Int32) (r_19 : Int32) (x_20 : Int64) (ex_20 : x_20 = r_14.toInt64 * r_19.toInt64) (r_25 : Int32) (r_30 : Int32) (x_31 : Int64) (ex_31 : x_31 = r_25.toInt64 * r_30.toInt64) (c_32 : nI tn2 = 0) : tn2 = 0 := by
  exact (nI_eq (a := tn2) (b := 0) (by omega) (by omega)).mp c_32
set_option maxHeartbeats 4000000 in
set_option maxRecDepth 100000 in
theorem c_X11_pair (l : Launch) (D : va_G) (cI cB cZ cJ : ClassId) (tx : List (ClassId × FieldType)) (a : Nat → Nat) (ap : Int32) (sn : Nat) (sk : Nat) (scu : Int32) (sch : Int32) (ot : Nat → Int32) (n1 : Int32) (n2 : Int32) (hsn : sn ≤ 24) (hsk : sk ≤ 8) : RdL l D cI cB cZ cJ tx yX11_pair cX11_pair 7 (some .long) 5 [.ref (a 0), .int n1, .int n2] [(a 0, .inr (11, [.ref (a 1), .ref (a 2), .ref (a 3), .ref (a 4), .ref (a 5), .ref (a 6), .ref (a 7), .ref (a 8), .ref (a 9), .ref (a 10), .ref (a 11), .ref (a 12), .int ap])), (a 10, .inr (10, [.ref (a 5), .ref (a 46)])), (a 5, .inr (4, [.ref (a 18), .ref (a 19), .ref (a 20), .ref (a 21), .ref (a 22), .ref (a 23), .ref (a 24), .int (nI sn), .int (nI sk), .int scu, .int sch])), (a 46, .inl (cI, 48, .inl ot))] (fun r => True) := by
  refine rdl_of2 (by decide) (Nat.le_of_ble_eq_true rfl) ?_
  intro p e s m below meth c A ls H locs hC hK hP hD hA hS hl
  obtain ⟨hx, hb, hr, hml, hown, hts, hlocks, hin⟩ := hC
  have hown : s.vm.findClass RX11 = some m.cls := hown
  have hl : lv_has ls 7 [(0, .ref (a 0)), (1, .int n1), (2, .int n2)] := hl
  refine lv_iload_n hx hb dX11_pair_0 rfl (lv_at hl 1 rfl) ?_
  refine lv_iconst (v := 0) hx hb dX11_pair_1 (by decide) ?_
  refine lv_aload_n hx hb dX11_pair_2 rfl (lv_at hl 0 rfl) ?_
  refine va_get (D := D) (ci := 11) (v := .ref (a 5)) (C := RX11) (T := TX11) (N := 13) hx hb hts inT_X11 hown hK.1 hP 0 rfl rfl 4 (by decide) (hts _ k_487) (fun _ h9 => h9) rfl dX11_pair_3 ?_
  refine va_getN (D := D) (ci := 4) (v := .int (nI sn)) (C := RX4) (T := TX4) (N := 11) hx hb hts inT_X4 hown hK.1 hP 2 rfl rfl 7 (by decide) (va_Nw.use rfl (hK.2.2.1 _ n_254)) (fun _ h9 => h9) rfl dX11_pair_6 ?_
  refine lv_iconst (v := 1) hx hb dX11_pair_9 (by decide) ?_
  refine lv_isub hx hb dX11_pair_10 ?_
  refine eRi (va_runS (As := [.int n1, .int 0, .int (nI sn - 1)]) (rest := []) ⟨hx, hb, hml, hown, hts⟩ (c_X11_within l D cI cB cZ cJ tx n1 0 (nI sn - 1) H.size) (zS hts k_527 v_X11_within ⟨Nat.le_of_ble_eq_true rfl, Nat.le_of_ble_eq_true rfl⟩) (px0 hK) rfl rfl hl.1 rfl (lv_room (Nat.le_of_ble_eq_true rfl)) dX11_pair_11 ⟨Nat.le_of_ble_eq_true rfl, Nat.le_of_ble_eq_true rfl⟩) hP hS hA (fun r_1 H locs wr_1 hP hS => ?_)
  subst wr_1
  refine lv_bi_eq (tgt := 26) hx hb dX11_pair_14 (by decide) (fun c_2 => ?_) (fun c_2 => ?_)
  · refine lv_ldc2 (v := (-1)) hx hb hown (hts _ k_1074) dX11_pair_26 ?_
    exact W.lret (v := (-1)) hx hb hr (fun tt9 ht hW => ⟨⟨((-1) : Int64), (), rfl, trivial, trivial⟩, hS.F ht⟩) hS.2.2 dX11_pair_29 hlocks
  · obtain ⟨tn1, tn1a, tn1e⟩ := of_within (lf_X11_pair_3 a ap sn sk scu sch ot n1 n2 hsn hsk c_2) c_2
    subst tn1e
    refine lv_iload_n hx hb dX11_pair_17 rfl (lv_at hl 2 rfl) ?_
    refine lv_iconst (v := 0) hx hb dX11_pair_18 (by decide) ?_
    refine lv_iconst (v := 1) hx hb dX11_pair_19 (by decide) ?_
    refine eRi (va_runS (As := [.int n2, .int 0, .int 1]) (rest := []) ⟨hx, hb, hml, hown, hts⟩ (c_X11_within l D cI cB cZ cJ tx n2 0 1 H.size) (zS hts k_527 v_X11_within ⟨Nat.le_of_ble_eq_true rfl, Nat.le_of_ble_eq_true rfl⟩) (px0 hK) rfl rfl hl.1 rfl (lv_room (Nat.le_of_ble_eq_true rfl)) dX11_pair_20 ⟨Nat.le_of_ble_eq_true rfl, Nat.le_of_ble_eq_true rfl⟩) hP hS hA (fun r_4 H locs wr_4 hP hS => ?_)
    subst wr_4
    refine lv_bi_ne (tgt := 30) hx hb dX11_pair_23 (by decide) (fun c_5 => ?_) (fun c_5 => ?_)
    · obtain ⟨tn2, tn2a, tn2b, tn2e⟩ := of_rng 0 1 rfl rfl c_5
      subst tn2e
      refine lv_aload_n hx hb dX11_pair_30 rfl (lv_at hl 0 rfl) ?_
      refine va_get (D := D) (ci := 11) (v := .ref (a 10)) (C := RX11) (T := TX11) (N := 13) hx hb hts inT_X11 hown hK.1 hP 0 rfl rfl 9 (by decide) (hts _ k_492) (fun _ h9 => h9) rfl dX11_pair_31 ?_
      refine eRi (va_runV (As := []) (rest := []) ⟨hx, hb, hml, hown, hts⟩ (c_X10_known l D cI cB cZ cJ tx a sn sk scu sch ot (lf_X11_pair_6 a ap sn sk scu sch ot (nI tn1) (nI tn2) hsn hsk c_2 tn1 tn1a rfl c_5 tn2 tn2a tn2b rfl) (lf_X11_pair_7 a ap sn sk scu sch ot (nI tn1) (nI tn2) hsn hsk c_2 tn1 tn1a rfl c_5 tn2 tn2a tn2b rfl) H.size) (zV hts k_1138 v_X10_known ⟨Nat.le_of_ble_eq_true rfl, Nat.le_of_ble_eq_true rfl⟩) (pV (pxS hK hP hD [1, 2, 3] (by decide) rfl) hK hP 1 rfl rfl) rfl rfl hl.1 rfl (lv_room (Nat.le_of_ble_eq_true rfl)) dX11_pair_34 ⟨Nat.le_of_ble_eq_true rfl, Nat.le_of_ble_eq_true rfl⟩) hP hS hA (fun r_8 H locs wr_8 hP hS => ?_)
      refine lv_if_ne (tgt := 44) hx hb dX11_pair_37 (by decide) (fun c_9 => ?_) (fun c_9 => ?_)
      · refine lv_aload_n hx hb dX11_pair_44 rfl (lv_at hl 0 rfl) ?_
        refine va_get (D := D) (ci := 11) (v := .ref (a 10)) (C := RX11) (T := TX11) (N := 13) hx hb hts inT_X11 hown hK.1 hP 0 rfl rfl 9 (by decide) (hts _ k_492) (fun _ h9 => h9) rfl dX11_pair_45 ?_
        refine lv_iload_n hx hb dX11_pair_48 rfl (lv_at hl 1 rfl) ?_
        refine lv_iconst (v := 0) hx hb dX11_pair_49 (by decide) ?_
        refine eRi (va_runV (As := [.int (nI tn1), .int 0]) (rest := []) ⟨hx, hb, hml, hown, hts⟩ (c_X10_above l D cI cB cZ cJ tx a sn sk scu sch ot tn1 0 (lf_X11_pair_10 a ap sn sk scu sch ot (nI tn1) (nI tn2) hsn hsk c_2 tn1 tn1a rfl c_5 tn2 tn2a tn2b rfl r_8 c_9) (lf_X11_pair_11 a ap sn sk scu sch ot (nI tn1) (nI tn2) hsn hsk c_2 tn1 tn1a rfl c_5 tn2 tn2a tn2b rfl r_8 c_9) (lf_X11_pair_12 a ap sn sk scu sch ot (nI tn1) (nI tn2) hsn hsk c_2 tn1 tn1a rfl c_5 tn2 tn2a tn2b rfl r_8 c_9) (lf_X11_pair_13 a ap sn sk scu sch ot (nI tn1) (nI tn2) hsn hsk c_2 tn1 tn1a rfl c_5 tn2 tn2a tn2b rfl r_8 c_9) H.size) (zV hts k_1155 v_X10_above ⟨Nat.le_of_ble_eq_true rfl, Nat.le_of_ble_eq_true rfl⟩) (pV (pxS hK hP hD [1, 2, 3] (by decide) rfl) hK hP 1 rfl rfl) rfl rfl hl.1 rfl (lv_room (Nat.le_of_ble_eq_true rfl)) dX11_pair_50 ⟨Nat.le_of_ble_eq_true rfl, Nat.le_of_ble_eq_true rfl⟩) hP hS hA (fun r_14 H locs wr_14 hP hS => ?_)
        refine lv_i2l (v := r_14.toInt64) hx hb dX11_pair_53 rfl ?_
        refine lv_aload_n hx hb dX11_pair_54 rfl (lv_at hl 0 rfl) ?_
        refine va_get (D := D) (ci := 11) (v := .ref (a 10)) (C := RX11) (T := TX11) (N := 13) hx hb hts inT_X11 hown hK.1 hP 0 rfl rfl 9 (by decide) (hts _ k_492) (fun _ h9 => h9) rfl dX11_pair_55 ?_
        refine lv_iload_n hx hb dX11_pair_58 rfl (lv_at hl 1 rfl) ?_
        refine lv_iconst (v := 1) hx hb dX11_pair_59 (by decide) ?_
        refine eRi (va_runV (As := [.int (nI tn1), .int 1]) (rest := [.long r_14.toInt64]) ⟨hx, hb, hml, hown, hts⟩ (c_X10_above l D cI cB cZ cJ tx a sn sk scu sch ot tn1 1 (lf_X11_pair_15 a ap sn sk scu sch ot (nI tn1) (nI tn2) hsn hsk c_2 tn1 tn1a rfl c_5 tn2 tn2a tn2b rfl r_8 c_9 r_14) (lf_X11_pair_16 a ap sn sk scu sch ot (nI tn1) (nI tn2) hsn hsk c_2 tn1 tn1a rfl c_5 tn2 tn2a tn2b rfl r_8 c_9 r_14) (lf_X11_pair_17 a ap sn sk scu sch ot (nI tn1) (nI tn2) hsn hsk c_2 tn1 tn1a rfl c_5 tn2 tn2a tn2b rfl r_8 c_9 r_14) (lf_X11_pair_18 a ap sn sk scu sch ot (nI tn1) (nI tn2) hsn hsk c_2 tn1 tn1a rfl c_5 tn2 tn2a tn2b rfl r_8 c_9 r_14) H.size) (zV hts k_1155 v_X10_above ⟨Nat.le_of_ble_eq_true rfl, Nat.le_of_ble_eq_true rfl⟩) (pV (pxS hK hP hD [1, 2, 3] (by decide) rfl) hK hP 1 rfl rfl) rfl rfl hl.1 rfl (lv_room (Nat.le_of_ble_eq_true rfl)) dX11_pair_60 ⟨Nat.le_of_ble_eq_true rfl, Nat.le_of_ble_eq_true rfl⟩) hP hS hA (fun r_19 H locs wr_19 hP hS => ?_)
        refine lv_i2l (v := r_19.toInt64) hx hb dX11_pair_63 rfl ?_
        refine lv_lmul hx hb dX11_pair_64 ?_
        refine lv_topl (fun x_20 ex_20 => ?_)
        refine lv_lstore_n (lv' := [(3, .long x_20), (0, .ref (a 0)), (1, .int (nI tn1)), (2, .int (nI tn2))]) hx hb dX11_pair_65 rfl hl (by decide) rfl (fun ls hl => ?_)
        refine lv_aload_n hx hb dX11_pair_66 rfl (lv_at hl 1 rfl) ?_
        refine va_get (D := D) (ci := 11) (v := .ref (a 10)) (C := RX11) (T := TX11) (N := 13) hx hb hts inT_X11 hown hK.1 hP 0 rfl rfl 9 (by decide) (hts _ k_492) (fun _ h9 => h9) rfl dX11_pair_67 ?_
        refine lv_iload_n hx hb dX11_pair_70 rfl (lv_at hl 2 rfl) ?_
        refine lv_iconst (v := 0) hx hb dX11_pair_71 (by decide) ?_
        refine eRi (va_runV (As := [.int (nI tn1), .int 0]) (rest := []) ⟨hx, hb, hml, hown, hts⟩ (c_X10_below l D cI cB cZ cJ tx a sn sk scu sch ot tn1 0 (lf_X11_pair_21 a ap sn sk scu sch ot (nI tn1) (nI tn2) hsn hsk c_2 tn1 tn1a rfl c_5 tn2 tn2a tn2b rfl r_8 c_9 r_14 r_19 x_20 ex_20) (lf_X11_pair_22 a ap sn sk scu sch ot (nI tn1) (nI tn2) hsn hsk c_2 tn1 tn1a rfl c_5 tn2 tn2a tn2b rfl r_8 c_9 r_14 r_19 x_20 ex_20) (lf_X11_pair_23 a ap sn sk scu sch ot (nI tn1) (nI tn2) hsn hsk c_2 tn1 tn1a rfl c_5 tn2 tn2a tn2b rfl r_8 c_9 r_14 r_19 x_20 ex_20) (lf_X11_pair_24 a ap sn sk scu sch ot (nI tn1) (nI tn2) hsn hsk c_2 tn1 tn1a rfl c_5 tn2 tn2a tn2b rfl r_8 c_9 r_14 r_19 x_20 ex_20) H.size) (zV hts k_1160 v_X10_below ⟨Nat.le_of_ble_eq_true rfl, Nat.le_of_ble_eq_true rfl⟩) (pV (pxS hK hP hD [1, 2, 3] (by decide) rfl) hK hP 1 rfl rfl) rfl rfl hl.1 rfl (lv_room (Nat.le_of_ble_eq_true rfl)) dX11_pair_72 ⟨Nat.le_of_ble_eq_true rfl, Nat.le_of_ble_eq_true rfl⟩) hP hS hA (fun r_25 H locs wr_25 hP hS => ?_)
        refine lv_i2l (v := r_25.toInt64) hx hb dX11_pair_75 rfl ?_
        refine lv_aload_n hx hb dX11_pair_76 rfl (lv_at hl 1 rfl) ?_
        refine va_get (D := D) (ci := 11) (v := .ref (a 10)) (C := RX11) (T := TX11) (N := 13) hx hb hts inT_X11 hown hK.1 hP 0 rfl rfl 9 (by decide) (hts _ k_492) (fun _ h9 => h9) rfl dX11_pair_77 ?_
        refine lv_iload_n hx hb dX11_pair_80 rfl (lv_at hl 2 rfl) ?_
        refine lv_iconst (v := 1) hx hb dX11_pair_81 (by decide) ?_
        refine eRi (va_runV (As := [.int (nI tn1), .int 1]) (rest := [.long r_25.toInt64]) ⟨hx, hb, hml, hown, hts⟩ (c_X10_below l D cI cB cZ cJ tx a sn sk scu sch ot tn1 1 (lf_X11_pair_26 a ap sn sk scu sch ot (nI tn1) (nI tn2) hsn hsk c_2 tn1 tn1a rfl c_5 tn2 tn2a tn2b rfl r_8 c_9 r_14 r_19 x_20 ex_20 r_25) (lf_X11_pair_27 a ap sn sk scu sch ot (nI tn1) (nI tn2) hsn hsk c_2 tn1 tn1a rfl c_5 tn2 tn2a tn2b rfl r_8 c_9 r_14 r_19 x_20 ex_20 r_25) (lf_X11_pair_28 a ap sn sk scu sch ot (nI tn1) (nI tn2) hsn hsk c_2 tn1 tn1a rfl c_5 tn2 tn2a tn2b rfl r_8 c_9 r_14 r_19 x_20 ex_20 r_25) (lf_X11_pair_29 a ap sn sk scu sch ot (nI tn1) (nI tn2) hsn hsk c_2 tn1 tn1a rfl c_5 tn2 tn2a tn2b rfl r_8 c_9 r_14 r_19 x_20 ex_20 r_25) H.size) (zV hts k_1160 v_X10_below ⟨Nat.le_of_ble_eq_true rfl, Nat.le_of_ble_eq_true rfl⟩) (pV (pxS hK hP hD [1, 2, 3] (by decide) rfl) hK hP 1 rfl rfl) rfl rfl hl.1 rfl (lv_room (Nat.le_of_ble_eq_true rfl)) dX11_pair_82 ⟨Nat.le_of_ble_eq_true rfl, Nat.le_of_ble_eq_true rfl⟩) hP hS hA (fun r_30 H locs wr_30 hP hS => ?_)
        refine lv_i2l (v := r_30.toInt64) hx hb dX11_pair_85 rfl ?_
        refine lv_lmul hx hb dX11_pair_86 ?_
        refine lv_topl (fun x_31 ex_31 => ?_)
        refine lv_lstore (lv' := [(5, .long x_31), (3, .long x_20), (0, .ref (a 0)), (1, .int (nI tn1)), (2, .int (nI tn2))]) hx hb dX11_pair_87 hl (by decide) rfl (fun ls hl => ?_)
        refine lv_lload_n hx hb dX11_pair_89 rfl (lv_at hl 1 rfl) ?_
        refine lv_lload hx hb dX11_pair_90 (lv_at hl 0 rfl) ?_
        refine lv_iload_n hx hb dX11_pair_92 rfl (lv_at hl 4 rfl) ?_
        refine lv_if_ne (tgt := 100) hx hb dX11_pair_93 (by decide) (fun c_32 => ?_) (fun c_32 => ?_)
        · have n_33 : tn2 ≠ 0 := (lf_X11_pair_34 a ap sn sk scu sch ot (nI tn1) (nI tn2) hsn hsk c_2 tn1 tn1a rfl c_5 tn2 tn2a tn2b rfl r_8 c_9 r_14 r_19 x_20 ex_20 r_25 r_30 x_31 ex_31 c_32)
          refine lv_iconst (v := 0) hx hb dX11_pair_100 (by decide) ?_
          refine eRl (va_runS (As := [.long x_20, .long x_31, .int 0]) (rest := []) ⟨hx, hb, hml, hown, hts⟩ (c_X11_reduced l D cI cB cZ cJ tx x_20 x_31 0 H.size) (zS hts k_1103 v_X11_reduced ⟨Nat.le_of_ble_eq_true rfl, Nat.le_of_ble_eq_true rfl⟩) (px0 hK) rfl rfl hl.1 rfl (lv_room (Nat.le_of_ble_eq_true rfl)) dX11_pair_101 ⟨Nat.le_of_ble_eq_true rfl, Nat.le_of_ble_eq_true rfl⟩) hP hS hA (fun r_35 H locs wr_35 hP hS => ?_)
          exact W.lret (v := r_35) hx hb hr (fun tt9 ht hW => ⟨⟨(r_35 : Int64), (), rfl, trivial, trivial⟩, hS.F ht⟩) hS.2.2 dX11_pair_104 hlocks
        · have n_36 : tn2 = 0 := (lf_X11_pair_37 a ap sn sk scu sch ot (nI tn1) (nI tn2) hsn hsk c_2 tn1 tn1a rfl c_5 tn2 tn2a tn2b rfl r_8 c_9 r_14 r_19 x_20 ex_20 r_25 r_30 x_31 ex_31 c_32)
          refine lv_iconst (v := 1) hx hb dX11_pair_96 (by decide) ?_
          refine lv_goto (tgt := 101) hx hb dX11_pair_97 (by decide) ?_
          refine eRl (va_runS (As := [.long x_20, .long x_31, .int 1]) (rest := []) ⟨hx, hb, hml, hown, hts⟩ (c_X11_reduced l D cI cB cZ cJ tx x_20 x_31 1 H.size) (zS hts k_1103 v_X11_reduced ⟨Nat.le_of_ble_eq_true rfl, Nat.le_of_ble_eq_true rfl⟩) (px0 hK) rfl rfl hl.1 rfl (lv_room (Nat.le_of_ble_eq_true rfl)) dX11_pair_101 ⟨Nat.le_of_ble_eq_true rfl, Nat.le_of_ble_eq_true rfl⟩) hP hS hA (fun r_38 H locs wr_38 hP hS => ?_)
          exact W.lret (v := r_38) hx hb hr (fun tt9 ht hW => ⟨⟨(r_38 : Int64), (), rfl, trivial, trivial⟩, hS.F ht⟩) hS.2.2 dX11_pair_104 hlocks
      · refine lv_ldc2 (v := (-2)) hx hb hown (hts _ k_1154) dX11_pair_40 ?_
        exact W.lret (v := (-2)) hx hb hr (fun tt9 ht hW => ⟨⟨((-2) : Int64), (), rfl, trivial, trivial⟩, hS.F ht⟩) hS.2.2 dX11_pair_43 hlocks
    · refine lv_ldc2 (v := (-1)) hx hb hown (hts _ k_1074) dX11_pair_26 ?_
      exact W.lret (v := (-1)) hx hb hr (fun tt9 ht hW => ⟨⟨((-1) : Int64), (), rfl, trivial, trivial⟩, hS.F ht⟩) hS.2.2 dX11_pair_29 hlocks
