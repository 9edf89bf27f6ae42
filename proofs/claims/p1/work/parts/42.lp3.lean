theorem lf_X6_amount_3 (a : Nat → Nat) (c0 : Nat) (r0 : Nat) (w0 : Nat) (h0 : Nat) (bc : Int32) (br : Int32) (mo : Int32) (ra : Int32) (pl : Int32) (hw : c0 + w0 ≤ 12) (hh : r0 + h0 ≤ 6) (j1 : Nat) (k6 : Nat) (hj6 : j1 ≤ (r0 + h0)) (hk6 : (r0 + h0) < j1 + (k6 + 1)) (x_1 : Int32) (ex_1 : x_1 = nI r0 + nI h0) (c_2 : x_1 ≤ nI j1) : (0 : Int32) = 0 := by
  rfl
theorem lf_X6_amount_4 (a : Nat → Nat) (c0 : Nat) (r0 : Nat) (w0 : Nat) (h0 : Nat) (bc : Int32) (br : Int32) (mo : Int32) (ra : Int32) (pl : Int32) (hw : c0 + w0 ≤ 12) (hh : r0 + h0 ≤ 6) (j1 : Nat) (k6 : Nat) (hj6 : j1 ≤ (r0 + h0)) (hk6 : (r0 + h0) < j1 + (k6 + 1)) (x_1 : Int32) (ex_1 : x_1 = nI r0 + nI h0) (c_2 : ¬ x_1 ≤ nI j1) : j1 < (r0 + h0) := by
  subst_vars
  rcases Nat.lt_or_ge j1 (r0 + h0) with q | q
  · exact q
  · exact absurd (show nI r0 + nI h0 ≤ nI j1 from by rw [nI_add]; exact nI_le q (by omega)) (by assumption)
theorem lf_X6_amount_9 (a : Nat → Nat) (c0 : Nat) (r0 : Nat) (w0 : Nat) (h0 : Nat) (bc : Int32) (br : Int32) (mo : Int32) (ra : Int32) (pl : Int32) (hw : c0 + w0 ≤ 12) (hh : r0 + h0 ≤ 6) (j1 : Nat) (k6 : Nat) (hj6 : j1 ≤ (r0 + h0)) (hk6 : (r0 + h0) < j1 + (k6 + 1)) (x_1 : Int32) (ex_1 : x_1 = nI r0 + nI h0) (c_2 : ¬ x_1 ≤ nI j1) (hlt6 : j1 < (r0 + h0)) (j2 : Nat) (k18 : Nat) (hj18 : j2 ≤ (c0 + w0)) (hk18 : (c0 + w0) < j2 + (k18 + 1)) (x_5 : Int32) (ex_5 : x_5 = nI c0 + nI w0) (c_6 : ¬ x_5 ≤ nI j2) : j2 < (c0 + w0) := by
  subst_vars
  rcases Nat.lt_or_ge j2 (c0 + w0) with q | q
  · exact q
  · exact absurd (show nI c0 + nI w0 ≤ nI j2 from by rw [nI_add]; exact nI_le q (by omega)) (by assumption)
theorem lf_X6_amount_12 (a : Nat → Nat) (c0 : Nat) (r0 : Nat) (w0 : Nat) (h0 : Nat) (bc : Int32) (br : Int32) (mo : Int32) (ra : Int32) (pl : Int32) (hw : c0 + w0 ≤ 12) (hh : r0 + h0 ≤ 6) (j1 : Nat) (k6 : Nat) (hj6 : j1 ≤ (r0 + h0)) (hk6 : (r0 + h0) < j1 + (k6 + 1)) (x_1 : Int32) (ex_1 : x_1 = nI r0 + nI h0) (c_2 : ¬ x_1 ≤ nI j1) (hlt6 : j1 < (r0 + h0)) (j2 : Nat) (k18 : Nat) (hj18 : j2 ≤ (c0 + w0)) (hk18 : (c0 + w0) < j2 + (k18 + 1)) (x_5 : Int32) (ex_5 : x_5 = nI c0 + nI w0) (c_6 : ¬ x_5 ≤ nI j2) (hlt18 : j2 < (c0 + w0)) (x_10 : Int32) (ex_10 : x_10 = nI j1 * 12) (x_11 : Int32) (ex_11 : x_11 = x_10 + nI j2) : vp_in x_11 72 := by
  first | (unfold vp_in; decide) | (subst_vars; rw [show (12 : Int32) = nI 12 from rfl, pk_mul, nI_add]; exact vp_in_nI (by omega) (by decide))
set_option maxHeartbeats 4000000 in
set_option maxRecDepth 100000 in
theorem c_X6_amount (l : Launch) (D : va_G) (cI cB cZ cJ : ClassId) (tx : List (ClassId × FieldType)) (a : Nat → Nat) (c0 : Nat) (r0 : Nat) (w0 : Nat) (h0 : Nat) (bc : Int32) (br : Int32) (mo : Int32) (ra : Int32) (pl : Int32) (hw : c0 + w0 ≤ 12) (hh : r0 + h0 ≤ 6) : RdI l D cI cB cZ cJ tx yX6_amount cX6_amount 8 (some .int) 0 [.ref (a 11), .int (nI c0), .int (nI r0), .int (nI w0), .int (nI h0)] [(a 11, .inr (6, [.ref (a 47), .int bc, .int br, .int mo, .int ra, .int pl])), (a 47, .inl (cI, 72, .inl (fun _ => 0)))] (fun r => r = 0) := by
  refine rdi_of2 (by decide) (Nat.le_of_ble_eq_true rfl) ?_
  intro p e s m below meth c A ls H locs hC hK hP hA hS hl
  obtain ⟨hx, hb, hr, hml, hown, hts, hlocks, hin⟩ := hC
  have hown : s.vm.findClass RX6 = some m.cls := hown
  have hl : lv_has ls 8 [(0, .ref (a 11)), (1, .int (nI c0)), (2, .int (nI r0)), (3, .int (nI w0)), (4, .int (nI h0))] := hl
  refine lv_iconst (v := 0) hx hb dX6_amount_0 (by decide) ?_
  refine lv_istore (lv' := [(5, .int 0), (0, .ref (a 11)), (1, .int (nI c0)), (2, .int (nI r0)), (3, .int (nI w0)), (4, .int (nI h0))]) hx hb dX6_amount_1 hl (by decide) rfl (fun ls hl => ?_)
  refine lv_iload_n hx hb dX6_amount_3 rfl (lv_at hl 3 rfl) ?_
  refine lv_istore (lv' := [(6, .int (nI r0)), (5, .int 0), (0, .ref (a 11)), (1, .int (nI c0)), (2, .int (nI r0)), (3, .int (nI w0)), (4, .int (nI h0))]) hx hb dX6_amount_4 hl (by decide) rfl (fun ls hl => ?_)
  have lp6 : ∀ (k6 : Nat) (j1 : Nat) (H : Heap) (locs : List Loc) (ls : Array Slot), j1 ≤ (r0 + h0) → (r0 + h0) < j1 + k6 → va_P D vwCl [(a 11, .inr (6, [.ref (a 47), .int bc, .int br, .int mo, .int ra, .int pl])), (a 47, .inl (cI, 72, .inl (fun _ => 0)))] H → va_S A s.heap H locs → lv_has ls 8 [(6, .int (nI j1)), (5, .int 0), (0, .ref (a 11)), (1, .int (nI c0)), (2, .int (nI r0)), (3, .int (nI w0)), (4, .int (nI h0))] → W p l e (rmX 0 0 0) s m ([.ref (a 11), .int (nI c0), .int (nI r0), .int (nI w0), .int (nI h0)] : List Value).toArray below meth c H locs 0 0 (MQ below (va_Qi (fun r (_ : Unit) => (fun r => r = 0) r) (fun _ _ => True) A) ([.ref (a 11), .int (nI c0), .int (nI r0), .int (nI w0), .int (nI h0)] : List Value).toArray s 0 0 A) (F0 m 6 ls []) := by
    intro k6
    induction k6 with
    | zero =>
      intro j1 H locs ls hj6 hk6  hP hS hl
      exact absurd hk6 (by omega)
    | succ k6 ih6 =>
      intro j1 H locs ls hj6 hk6  hP hS hl
      refine lv_iload hx hb dX6_amount_6 (lv_at hl 0 rfl) ?_
      refine lv_iload_n hx hb dX6_amount_8 rfl (lv_at hl 4 rfl) ?_
      refine lv_iload hx hb dX6_amount_9 (lv_at hl 6 rfl) ?_
      refine lv_iadd hx hb dX6_amount_11 ?_
      refine lv_topi (fun x_1 ex_1 => ?_)
      refine lv_icmp_ge (tgt := 56) hx hb dX6_amount_12 (by decide) (fun c_2 => ?_) (fun c_2 => ?_)
      · refine lv_iload hx hb dX6_amount_56 (lv_at hl 1 rfl) ?_
        exact W.iret (v := 0) hx hb hr (fun t ht hW => ⟨⟨(0 : Int32), (), rfl, (lf_X6_amount_3 a c0 r0 w0 h0 bc br mo ra pl hw hh j1 k6 hj6 hk6 x_1 ex_1 c_2), trivial⟩, hS.F ht⟩) hS.2.2 dX6_amount_58 hlocks
      · have hlt6 : j1 < (r0 + h0) := (lf_X6_amount_4 a c0 r0 w0 h0 bc br mo ra pl hw hh j1 k6 hj6 hk6 x_1 ex_1 c_2)
        refine lv_iload_n hx hb dX6_amount_15 rfl (lv_at hl 3 rfl) ?_
        refine lv_istore (lv' := [(7, .int (nI c0)), (6, .int (nI j1)), (5, .int 0), (0, .ref (a 11)), (1, .int (nI c0)), (2, .int (nI r0)), (3, .int (nI w0)), (4, .int (nI h0))]) hx hb dX6_amount_16 hl (by decide) rfl (fun ls hl => ?_)
        have lp18 : ∀ (k18 : Nat) (j2 : Nat) (H : Heap) (locs : List Loc) (ls : Array Slot), j2 ≤ (c0 + w0) → (c0 + w0) < j2 + k18 → va_P D vwCl [(a 11, .inr (6, [.ref (a 47), .int bc, .int br, .int mo, .int ra, .int pl])), (a 47, .inl (cI, 72, .inl (fun _ => 0)))] H → va_S A s.heap H locs → lv_has ls 8 [(7, .int (nI j2)), (6, .int (nI j1)), (5, .int 0), (0, .ref (a 11)), (1, .int (nI c0)), (2, .int (nI r0)), (3, .int (nI w0)), (4, .int (nI h0))] → W p l e (rmX 0 0 0) s m ([.ref (a 11), .int (nI c0), .int (nI r0), .int (nI w0), .int (nI h0)] : List Value).toArray below meth c H locs 0 0 (MQ below (va_Qi (fun r (_ : Unit) => (fun r => r = 0) r) (fun _ _ => True) A) ([.ref (a 11), .int (nI c0), .int (nI r0), .int (nI w0), .int (nI h0)] : List Value).toArray s 0 0 A) (F0 m 18 ls []) := by
          intro k18
          induction k18 with
          | zero =>
            intro j2 H locs ls hj18 hk18  hP hS hl
            exact absurd hk18 (by omega)
          | succ k18 ih18 =>
            intro j2 H locs ls hj18 hk18  hP hS hl
            refine lv_iload hx hb dX6_amount_18 (lv_at hl 0 rfl) ?_
            refine lv_iload_n hx hb dX6_amount_20 rfl (lv_at hl 4 rfl) ?_
            refine lv_iload_n hx hb dX6_amount_21 rfl (lv_at hl 6 rfl) ?_
            refine lv_iadd hx hb dX6_amount_22 ?_
            refine lv_topi (fun x_5 ex_5 => ?_)
            refine lv_icmp_ge (tgt := 50) hx hb dX6_amount_23 (by decide) (fun c_6 => ?_) (fun c_6 => ?_)
            · obtain ⟨x_7, ex_7⟩ : ∃ z : Int32, z = nI j1 + Int32.ofInt 1 := ⟨_, rfl⟩
              refine lv_iinc (v := x_7) (lv' := [(6, .int x_7), (7, .int (nI j2)), (5, .int 0), (0, .ref (a 11)), (1, .int (nI c0)), (2, .int (nI r0)), (3, .int (nI w0)), (4, .int (nI h0))]) hx hb dX6_amount_50 hl (k := 1) rfl (ex_7.symm) (by decide) rfl (fun ls hl => ?_)
              refine lv_goto (tgt := 6) hx hb dX6_amount_53 (by decide) ?_
              have ej_8 : x_7 = nI (j1 + 1) := ex_7.trans (nI_1 j1)
              rw [ej_8] at hl
              exact ih6 (j1 + 1)  H locs ls (by omega) (by omega)  (hP.sub [0, 1] rfl)  hS (lv_sub hl [0, 2, 3, 4, 5, 6, 7] rfl)
            · have hlt18 : j2 < (c0 + w0) := (lf_X6_amount_9 a c0 r0 w0 h0 bc br mo ra pl hw hh j1 k6 hj6 hk6 x_1 ex_1 c_2 hlt6 j2 k18 hj18 hk18 x_5 ex_5 c_6)
              refine lv_iload hx hb dX6_amount_26 (lv_at hl 2 rfl) ?_
              refine lv_aload_n hx hb dX6_amount_28 rfl (lv_at hl 3 rfl) ?_
              refine va_get (D := D) (ci := 6) (v := .ref (a 47)) (C := RX6) (T := TX6) (N := 6) hx hb hts inT_X6 hown hK.1 hP 0 rfl rfl 0 (by decide) (hts _ k_441) (fun _ h9 => h9) rfl dX6_amount_29 ?_
              refine lv_iload hx hb dX6_amount_32 (lv_at hl 1 rfl) ?_
              refine lv_bipush (v := 12) hx hb dX6_amount_34 (by decide) ?_
              refine lv_imul hx hb dX6_amount_36 ?_
              refine lv_topi (fun x_10 ex_10 => ?_)
              refine lv_iload hx hb dX6_amount_37 (lv_at hl 0 rfl) ?_
              refine lv_iadd hx hb dX6_amount_39 ?_
              refine lv_topi (fun x_11 ex_11 => ?_)
              refine l0_i hx hb hK hP 1 rfl (lf_X6_amount_12 a c0 r0 w0 h0 bc br mo ra pl hw hh j1 k6 hj6 hk6 x_1 ex_1 c_2 hlt6 j2 k18 hj18 hk18 x_5 ex_5 c_6 hlt18 x_10 ex_10 x_11 ex_11) dX6_amount_40 ?_
              refine lv_iadd hx hb dX6_amount_41 ?_
              refine lv_topv (y := 0) (by decide) ?_
              refine lv_istore (lv' := [(5, .int 0), (7, .int (nI j2)), (6, .int (nI j1)), (0, .ref (a 11)), (1, .int (nI c0)), (2, .int (nI r0)), (3, .int (nI w0)), (4, .int (nI h0))]) hx hb dX6_amount_42 hl (by decide) rfl (fun ls hl => ?_)
              obtain ⟨x_13, ex_13⟩ : ∃ z : Int32, z = nI j2 + Int32.ofInt 1 := ⟨_, rfl⟩
              refine lv_iinc (v := x_13) (lv' := [(7, .int x_13), (5, .int 0), (6, .int (nI j1)), (0, .ref (a 11)), (1, .int (nI c0)), (2, .int (nI r0)), (3, .int (nI w0)), (4, .int (nI h0))]) hx hb dX6_amount_44 hl (k := 1) rfl (ex_13.symm) (by decide) rfl (fun ls hl => ?_)
              refine lv_goto (tgt := 18) hx hb dX6_amount_47 (by decide) ?_
              have ej_14 : x_13 = nI (j2 + 1) := ex_13.trans (nI_1 j2)
              rw [ej_14] at hl
              exact ih18 (j2 + 1)  H locs ls (by omega) (by omega)  (hP.sub [0, 1] rfl)  hS (lv_sub hl [0, 2, 1, 3, 4, 5, 6, 7] rfl)
        exact lp18 ((c0 + w0) + 1) c0  H locs ls (by omega) (by omega)  (hP.sub [0, 1] rfl)  hS (lv_sub hl [0, 1, 2, 3, 4, 5, 6, 7] rfl)
  exact lp6 ((r0 + h0) + 1) r0  H locs ls (by omega) (by omega)  (hP.sub [0, 1] rfl)  hS (lv_sub hl [0, 1, 2, 3, 4, 5, 6] rfl)

theorem lf_X6_weigh_5 (a : Nat → Nat) (bc : Int32) (br : Int32) (mo : Int32) (ra : Int32) (pl : Int32) (n1 : Int32) (n2 : Int32) (x_1 : Int32) (ex_1 : x_1 = pl + 1) (c_2 : (0 : Int32) ≤ mo) (c_3 : ¬ (0 : Int32) = mo) (x_4 : Int32) (ex_4 : x_4 = ra + 0) : wg mo ra pl bc br n1 n2 ((bc : Int32), (br : Int32), (mo : Int32), (x_4 : Int32), (x_1 : Int32)) := by
  unfold wg; refine ⟨fun hh => ?_, fun hh => ?_⟩ <;> first | (subst_vars; rfl) | (exfalso; grind) | grind
theorem lf_X6_weigh_7 (a : Nat → Nat) (bc : Int32) (br : Int32) (mo : Int32) (ra : Int32) (pl : Int32) (n1 : Int32) (n2 : Int32) (x_1 : Int32) (ex_1 : x_1 = pl + 1) (c_2 : (0 : Int32) ≤ mo) (c_3 : (0 : Int32) = mo) (x_6 : Int32) (ex_6 : x_6 = ra + 1) : wg mo ra pl bc br n1 n2 ((bc : Int32), (br : Int32), (mo : Int32), (x_6 : Int32), (x_1 : Int32)) := by
  unfold wg; refine ⟨fun hh => ?_, fun hh => ?_⟩ <;> first | (subst_vars; rfl) | (exfalso; grind) | grind
theorem lf_X6_weigh_8 (a : Nat → Nat) (bc : Int32) (br : Int32) (mo : Int32) (ra : Int32) (pl : Int32) (n1 : Int32) (n2 : Int32) (x_1 : Int32) (ex_1 : x_1 = pl + 1) (c_2 : ¬ (0 : Int32) ≤ mo) : wg mo ra pl bc br n1 n2 ((n1 : Int32), (n2 : Int32), (0 : Int32), (1 : Int32), (x_1 : Int32)) := by
  unfold wg; refine ⟨fun hh => ?_, fun hh => ?_⟩ <;> first | (subst_vars; rfl) | (exfalso; grind) | grind
set_option maxHeartbeats 4000000 in
set_option maxRecDepth 100000 in
theorem c_X6_weigh (l : Launch) (D : va_G) (cI cB cZ cJ : ClassId) (tx : List (ClassId × FieldType)) (a : Nat → Nat) (bc : Int32) (br : Int32) (mo : Int32) (ra : Int32) (pl : Int32) (n1 : Int32) (n2 : Int32) : WrV l D cI cB cZ cJ tx yX6_weigh cX6_weigh 4 none 0 0 0 [.ref (a 11), .int n1, .int n2, .int 0] [(a 11, .inr (6, [.ref (a 47), .int bc, .int br, .int mo, .int ra, .int pl]))] (fun (u : Int32 × Int32 × Int32 × Int32 × Int32) => wg mo ra pl bc br n1 n2 u) (fun u => [(a 11, .inr (6, [.ref (a 47), .int u.1, .int u.2.1, .int u.2.2.1, .int u.2.2.2.1, .int u.2.2.2.2]))]) := by
  refine wrv_of2 (by decide) (Nat.le_of_ble_eq_true rfl) ?_
  intro p e s m below meth c A ls H locs hC hK hP hD hA hS hl
  obtain ⟨hx, hb, hr, hml, hown, hts, hlocks, hin⟩ := hC
  have hown : s.vm.findClass RX6 = some m.cls := hown
  have hl : lv_has ls 4 [(0, .ref (a 11)), (1, .int n1), (2, .int n2), (3, .int 0)] := hl
  refine lv_aload_n hx hb dX6_weigh_0 rfl (lv_at hl 0 rfl) ?_
  refine lv_dup hx hb dX6_weigh_1 rfl ?_
  refine va_get (D := D) (ci := 6) (v := .int pl) (C := RX6) (T := TX6) (N := 6) hx hb hts inT_X6 hown hK.1 hP 0 rfl rfl 5 (by decide) (hts _ k_450) (fun _ h9 => h9) rfl dX6_weigh_2 ?_
  refine lv_iconst (v := 1) hx hb dX6_weigh_5 (by decide) ?_
  refine lv_iadd hx hb dX6_weigh_6 ?_
  refine lv_topi (fun x_1 ex_1 => ?_)
  refine va_put (D := D) (ci := 6) (v := .int x_1) (ty := .int) (C := RX6) (T := TX6) (N := 6) hx hb hts inT_X6 tyX6 tyX6_ok nmX6 hown hK.1 hP hD hS 0 rfl rfl 5 (by decide) (hts _ k_450) (fun _ h9 => h9) rfl (by decide +kernel) rfl rfl (Nat.le_of_ble_eq_true rfl) dX6_weigh_7 (fun H locs hP hD hS => ?_)
  have hP : va_P D vwCl [(a 11, .inr (6, [.ref (a 47), .int bc, .int br, .int mo, .int ra, .int x_1]))] H := hP
  have hD : va_D A [(a 11, .inr (6, [.ref (a 47), .int bc, .int br, .int mo, .int ra, .int x_1]))] := hD
  refine lv_iload_n hx hb dX6_weigh_10 rfl (lv_at hl 3 rfl) ?_
  refine lv_aload_n hx hb dX6_weigh_11 rfl (lv_at hl 0 rfl) ?_
  refine va_get (D := D) (ci := 6) (v := .int mo) (C := RX6) (T := TX6) (N := 6) hx hb hts inT_X6 hown hK.1 hP 0 rfl rfl 3 (by decide) (hts _ k_446) (fun _ h9 => h9) rfl dX6_weigh_12 ?_
  refine lv_icmp_le (tgt := 38) hx hb dX6_weigh_15 (by decide) (fun c_2 => ?_) (fun c_2 => ?_)
  · refine lv_aload_n hx hb dX6_weigh_38 rfl (lv_at hl 0 rfl) ?_
    refine lv_dup hx hb dX6_weigh_39 rfl ?_
    refine va_get (D := D) (ci := 6) (v := .int ra) (C := RX6) (T := TX6) (N := 6) hx hb hts inT_X6 hown hK.1 hP 0 rfl rfl 4 (by decide) (hts _ k_448) (fun _ h9 => h9) rfl dX6_weigh_40 ?_
    refine lv_iload_n hx hb dX6_weigh_43 rfl (lv_at hl 3 rfl) ?_
    refine lv_aload_n hx hb dX6_weigh_44 rfl (lv_at hl 0 rfl) ?_
    refine va_get (D := D) (ci := 6) (v := .int mo) (C := RX6) (T := TX6) (N := 6) hx hb hts inT_X6 hown hK.1 hP 0 rfl rfl 3 (by decide) (hts _ k_446) (fun _ h9 => h9) rfl dX6_weigh_45 ?_
    refine lv_icmp_ne (tgt := 55) hx hb dX6_weigh_48 (by decide) (fun c_3 => ?_) (fun c_3 => ?_)
    · refine lv_iconst (v := 0) hx hb dX6_weigh_55 (by decide) ?_
      refine lv_iadd hx hb dX6_weigh_56 ?_
      refine lv_topi (fun x_4 ex_4 => ?_)
      refine va_put (D := D) (ci := 6) (v := .int x_4) (ty := .int) (C := RX6) (T := TX6) (N := 6) hx hb hts inT_X6 tyX6 tyX6_ok nmX6 hown hK.1 hP hD hS 0 rfl rfl 4 (by decide) (hts _ k_448) (fun _ h9 => h9) rfl (by decide +kernel) rfl rfl (Nat.le_of_ble_eq_true rfl) dX6_weigh_57 (fun H locs hP hD hS => ?_)
      have hP : va_P D vwCl [(a 11, .inr (6, [.ref (a 47), .int bc, .int br, .int mo, .int x_4, .int x_1]))] H := hP
      have hD : va_D A [(a 11, .inr (6, [.ref (a 47), .int bc, .int br, .int mo, .int x_4, .int x_1]))] := hD
      exact W.vret hx hb hr (fun t ht hW => ⟨⟨((bc : Int32), (br : Int32), (mo : Int32), (x_4 : Int32), (x_1 : Int32)), rfl, (lf_X6_weigh_5 a bc br mo ra pl n1 n2 x_1 ex_1 c_2 c_3 x_4 ex_4), ⟨by rw [ht]; exact hP, hD⟩⟩, hS.F ht⟩) hS.2.2 dX6_weigh_60 hlocks
    · refine lv_iconst (v := 1) hx hb dX6_weigh_51 (by decide) ?_
      refine lv_goto (tgt := 56) hx hb dX6_weigh_52 (by decide) ?_
      refine lv_iadd hx hb dX6_weigh_56 ?_
      refine lv_topi (fun x_6 ex_6 => ?_)
      refine va_put (D := D) (ci := 6) (v := .int x_6) (ty := .int) (C := RX6) (T := TX6) (N := 6) hx hb hts inT_X6 tyX6 tyX6_ok nmX6 hown hK.1 hP hD hS 0 rfl rfl 4 (by decide) (hts _ k_448) (fun _ h9 => h9) rfl (by decide +kernel) rfl rfl (Nat.le_of_ble_eq_true rfl) dX6_weigh_57 (fun H locs hP hD hS => ?_)
      have hP : va_P D vwCl [(a 11, .inr (6, [.ref (a 47), .int bc, .int br, .int mo, .int x_6, .int x_1]))] H := hP
      have hD : va_D A [(a 11, .inr (6, [.ref (a 47), .int bc, .int br, .int mo, .int x_6, .int x_1]))] := hD
      exact W.vret hx hb hr (fun t ht hW => ⟨⟨((bc : Int32), (br : Int32), (mo : Int32), (x_6 : Int32), (x_1 : Int32)), rfl, (lf_X6_weigh_7 a bc br mo ra pl n1 n2 x_1 ex_1 c_2 c_3 x_6 ex_6), ⟨by rw [ht]; exact hP, hD⟩⟩, hS.F ht⟩) hS.2.2 dX6_weigh_60 hlocks
  · refine lv_aload_n hx hb dX6_weigh_18 rfl (lv_at hl 0 rfl) ?_
    refine lv_iload_n hx hb dX6_weigh_19 rfl (lv_at hl 3 rfl) ?_
    refine va_put (D := D) (ci := 6) (v := .int 0) (ty := .int) (C := RX6) (T := TX6) (N := 6) hx hb hts inT_X6 tyX6 tyX6_ok nmX6 hown hK.1 hP hD hS 0 rfl rfl 3 (by decide) (hts _ k_446) (fun _ h9 => h9) rfl (by decide +kernel) rfl rfl (Nat.le_of_ble_eq_true rfl) dX6_weigh_20 (fun H locs hP hD hS => ?_)
    have hP : va_P D vwCl [(a 11, .inr (6, [.ref (a 47), .int bc, .int br, .int 0, .int ra, .int x_1]))] H := hP
    have hD : va_D A [(a 11, .inr (6, [.ref (a 47), .int bc, .int br, .int 0, .int ra, .int x_1]))] := hD
    refine lv_aload_n hx hb dX6_weigh_23 rfl (lv_at hl 0 rfl) ?_
    refine lv_iload_n hx hb dX6_weigh_24 rfl (lv_at hl 1 rfl) ?_
    refine va_put (D := D) (ci := 6) (v := .int n1) (ty := .int) (C := RX6) (T := TX6) (N := 6) hx hb hts inT_X6 tyX6 tyX6_ok nmX6 hown hK.1 hP hD hS 0 rfl rfl 1 (by decide) (hts _ k_442) (fun _ h9 => h9) rfl (by decide +kernel) rfl rfl (Nat.le_of_ble_eq_true rfl) dX6_weigh_25 (fun H locs hP hD hS => ?_)
    have hP : va_P D vwCl [(a 11, .inr (6, [.ref (a 47), .int n1, .int br, .int 0, .int ra, .int x_1]))] H := hP
    have hD : va_D A [(a 11, .inr (6, [.ref (a 47), .int n1, .int br, .int 0, .int ra, .int x_1]))] := hD
    refine lv_aload_n hx hb dX6_weigh_28 rfl (lv_at hl 0 rfl) ?_
    refine lv_iload_n hx hb dX6_weigh_29 rfl (lv_at hl 2 rfl) ?_
    refine va_put (D := D) (ci := 6) (v := .int n2) (ty := .int) (C := RX6) (T := TX6) (N := 6) hx hb hts inT_X6 tyX6 tyX6_ok nmX6 hown hK.1 hP hD hS 0 rfl rfl 2 (by decide) (hts _ k_444) (fun _ h9 => h9) rfl (by decide +kernel) rfl rfl (Nat.le_of_ble_eq_true rfl) dX6_weigh_30 (fun H locs hP hD hS => ?_)
    have hP : va_P D vwCl [(a 11, .inr (6, [.ref (a 47), .int n1, .int n2, .int 0, .int ra, .int x_1]))] H := hP
    have hD : va_D A [(a 11, .inr (6, [.ref (a 47), .int n1, .int n2, .int 0, .int ra, .int x_1]))] := hD
    refine lv_aload_n hx hb dX6_weigh_33 rfl (lv_at hl 0 rfl) ?_
    refine lv_iconst (v := 0) hx hb dX6_weigh_34 (by decide) ?_
    refine va_put (D := D) (ci := 6) (v := .int 0) (ty := .int) (C := RX6) (T := TX6) (N := 6) hx hb hts inT_X6 tyX6 tyX6_ok nmX6 hown hK.1 hP hD hS 0 rfl rfl 4 (by decide) (hts _ k_448) (fun _ h9 => h9) rfl (by decide +kernel) rfl rfl (Nat.le_of_ble_eq_true rfl) dX6_weigh_35 (fun H locs hP hD hS => ?_)
    have hP : va_P D vwCl [(a 11, .inr (6, [.ref (a 47), .int n1, .int n2, .int 0, .int 0, .int x_1]))] H := hP
    have hD : va_D A [(a 11, .inr (6, [.ref (a 47), .int n1, .int n2, .int 0, .int 0, .int x_1]))] := hD
    refine lv_aload_n hx hb dX6_weigh_38 rfl (lv_at hl 0 rfl) ?_
    refine lv_dup hx hb dX6_weigh_39 rfl ?_
    refine va_get (D := D) (ci := 6) (v := .int 0) (C := RX6) (T := TX6) (N := 6) hx hb hts inT_X6 hown hK.1 hP 0 rfl rfl 4 (by decide) (hts _ k_448) (fun _ h9 => h9) rfl dX6_weigh_40 ?_
    refine lv_iload_n hx hb dX6_weigh_43 rfl (lv_at hl 3 rfl) ?_
    refine lv_aload_n hx hb dX6_weigh_44 rfl (lv_at hl 0 rfl) ?_
    refine va_get (D := D) (ci := 6) (v := .int 0) (C := RX6) (T := TX6) (N := 6) hx hb hts inT_X6 hown hK.1 hP 0 rfl rfl 3 (by decide) (hts _ k_446) (fun _ h9 => h9) rfl dX6_weigh_45 ?_
    refine lv_icmp_ne (tgt := 55) hx hb dX6_weigh_48 (by decide) (fun c => absurd c (by decide)) (fun _ => ?_)
    refine lv_iconst (v := 1) hx hb dX6_weigh_51 (by decide) ?_
    refine lv_goto (tgt := 56) hx hb dX6_weigh_52 (by decide) ?_
    refine lv_iadd hx hb dX6_weigh_56 ?_
    refine lv_topv (y := 1) (by decide) ?_
    refine va_put (D := D) (ci := 6) (v := .int 1) (ty := .int) (C := RX6) (T := TX6) (N := 6) hx hb hts inT_X6 tyX6 tyX6_ok nmX6 hown hK.1 hP hD hS 0 rfl rfl 4 (by decide) (hts _ k_448) (fun _ h9 => h9) rfl (by decide +kernel) rfl rfl (Nat.le_of_ble_eq_true rfl) dX6_weigh_57 (fun H locs hP hD hS => ?_)
    have hP : va_P D vwCl [(a 11, .inr (6, [.ref (a 47), .int n1, .int n2, .int 0, .int 1, .int x_1]))] H := hP
    have hD : va_D A [(a 11, .inr (6, [.ref (a 47), .int n1, .int n2, .int 0, .int 1, .int x_1]))] := hD
    exact W.vret hx hb hr (fun t ht hW => ⟨⟨((n1 : Int32), (n2 : Int32), (0 : Int32), (1 : Int32), (x_1 : Int32)), rfl, (lf_X6_weigh_8 a bc br mo ra pl n1 n2 x_1 ex_1 c_2), ⟨by rw [ht]; exact hP, hD⟩⟩, hS.F ht⟩) hS.2.2 dX6_weigh_60 hlocks

theorem lf_X6_seek_3 (a : Nat → Nat) (w0 : Nat) (h0 : Nat) (hw1 : 1 ≤ w0) (hw2 : w0 ≤ 12) (hh1 : 1 ≤ h0) (hh2 : h0 ≤ 6) (j1 : Nat) (bca : Int32) (bra : Int32) (moa : Int32) (raa : Int32) (pla : Int32) (k17 : Nat) (hj17 : j1 ≤ (7 - h0)) (hk17 : (7 - h0) < j1 + (k17 + 1)) (iv17 : bca = 0 ∧ bra = 0 ∧ raa = nI (j1 * (13 - w0)) ∧ pla = nI (j1 * (13 - w0)) ∧ (j1 * (13 - w0) = 0 → moa = -1) ∧ (0 < j1 * (13 - w0) → moa = 0)) (x_1 : Int32) (ex_1 : x_1 = nI j1 + nI h0) (c_2 : 6 < x_1) : (7 - h0) ≤ j1 := by
  subst_vars
  have e : nI 6 < nI (j1 + h0) := by rw [← nI_add]; assumption
  have e2 := (nI_ltI (by decide) (by omega)).mp e
  omega
theorem lf_X6_seek_4 (a : Nat → Nat) (w0 : Nat) (h0 : Nat) (hw1 : 1 ≤ w0) (hw2 : w0 ≤ 12) (hh1 : 1 ≤ h0) (hh2 : h0 ≤ 6) (j1 : Nat) (bca : Int32) (bra : Int32) (moa : Int32) (raa : Int32) (pla : Int32) (k17 : Nat) (hj17 : j1 ≤ (7 - h0)) (hk17 : (7 - h0) < j1 + (k17 + 1)) (iv17 : bca = 0 ∧ bra = 0 ∧ raa = nI (j1 * (13 - w0)) ∧ pla = nI (j1 * (13 - w0)) ∧ (j1 * (13 - w0) = 0 → moa = -1) ∧ (0 < j1 * (13 - w0) → moa = 0)) (x_1 : Int32) (ex_1 : x_1 = nI j1 + nI h0) (c_2 : 6 < x_1) (hge17 : (7 - h0) ≤ j1) : bca = 0 ∧ bra = 0 ∧ moa = 0 ∧ raa = nI ((7 - h0) * (13 - w0)) ∧ pla = nI ((7 - h0) * (13 - w0)) := by
  obtain ⟨i1, i2, i3, i4, i5, i6⟩ := iv17
  have e : j1 = 7 - h0 := by omega
  subst e
  exact ⟨i1, i2, i6 (Nat.mul_pos (by omega) (by omega)), i3, i4⟩
theorem lf_X6_seek_5 (a : Nat → Nat) (w0 : Nat) (h0 : Nat) (hw1 : 1 ≤ w0) (hw2 : w0 ≤ 12) (hh1 : 1 ≤ h0) (hh2 : h0 ≤ 6) (j1 : Nat) (bca : Int32) (bra : Int32) (moa : Int32) (raa : Int32) (pla : Int32) (k17 : Nat) (hj17 : j1 ≤ (7 - h0)) (hk17 : (7 - h0) < j1 + (k17 + 1)) (iv17 : bca = 0 ∧ bra = 0 ∧ raa = nI (j1 * (13 - w0)) ∧ pla = nI (j1 * (13 - w0)) ∧ (j1 * (13 - w0) = 0 → moa = -1) ∧ (0 < j1 * (13 - w0) → moa = 0)) (x_1 : Int32) (ex_1 : x_1 = nI j1 + nI h0) (c_2 : ¬ 6 < x_1) : j1 < (7 - h0) := by
  subst_vars
  have e : ¬ nI 6 < nI (j1 + h0) := by rw [← nI_add]; assumption
  have e2 : ¬ 6 < j1 + h0 := fun q => e ((nI_ltI (by decide) (by omega)).mpr q)
  omega
theorem lf_X6_seek_8 (a : Nat → Nat) (w0 : Nat) (h0 : Nat) (hw1 : 1 ≤ w0) (hw2 : w0 ≤ 12) (hh1 : 1 ≤ h0) (hh2 : h0 ≤ 6) (j1 : Nat) (bca : Int32) (bra : Int32) (moa : Int32) (raa : Int32) (pla : Int32) (k17 : Nat) (hj17 : j1 ≤ (7 - h0)) (hk17 : (7 - h0) < j1 + (k17 + 1)) (iv17 : bca = 0 ∧ bra = 0 ∧ raa = nI (j1 * (13 - w0)) ∧ pla = nI (j1 * (13 - w0)) ∧ (j1 * (13 - w0) = 0 → moa = -1) ∧ (0 < j1 * (13 - w0) → moa = 0)) (x_1 : Int32) (ex_1 : x_1 = nI j1 + nI h0) (c_2 : ¬ 6 < x_1) (hlt17 : j1 < (7 - h0)) (j2 : Nat) (bcb : Int32) (brb : Int32) (mob : Int32) (rab : Int32) (plb : Int32) (k28 : Nat) (hj28 : j2 ≤ (13 - w0)) (hk28 : (13 - w0) < j2 + (k28 + 1)) (iv28 : bcb = 0 ∧ brb = 0 ∧ rab = nI (j1 * (13 - w0) + j2) ∧ plb = nI (j1 * (13 - w0) + j2) ∧ (j1 * (13 - w0) + j2 = 0 → mob = -1) ∧ (0 < j1 * (13 - w0) + j2 → mob = 0)) (x_6 : Int32) (ex_6 : x_6 = nI j2 + nI w0) (c_7 : 12 < x_6) : (13 - w0) ≤ j2 := by
  subst_vars
  have e : nI 12 < nI (j2 + w0) := by rw [← nI_add]; assumption
  have e2 := (nI_ltI (by decide) (by omega)).mp e
  omega
theorem lf_X6_seek_11 (a : Nat → Nat) (w0 : Nat) (h0 : Nat) (hw1 : 1 ≤ w0) (hw2 : w0 ≤ 12) (hh1 : 1 ≤ h0) (hh2 : h0 ≤ 6) (j1 : Nat) (bca : Int32) (bra : Int32) (moa : Int32) (raa : Int32) (pla : Int32) (k17 : Nat) (hj17 : j1 ≤ (7 - h0)) (hk17 : (7 - h0) < j1 + (k17 + 1)) (iv17 : bca = 0 ∧ bra = 0 ∧ raa = nI (j1 * (13 - w0)) ∧ pla = nI (j1 * (13 - w0)) ∧ (j1 * (13 - w0) = 0 → moa = -1) ∧ (0 < j1 * (13 - w0) → moa = 0)) (x_1 : Int32) (ex_1 : x_1 = nI j1 + nI h0) (c_2 : ¬ 6 < x_1) (hlt17 : j1 < (7 - h0)) (j2 : Nat) (bcb : Int32) (brb : Int32) (mob : Int32) (rab : Int32) (plb : Int32) (k28 : Nat) (hj28 : j2 ≤ (13 - w0)) (hk28 : (13 - w0) < j2 + (k28 + 1)) (iv28 : bcb = 0 ∧ brb = 0 ∧ rab = nI (j1 * (13 - w0) + j2) ∧ plb = nI (j1 * (13 - w0) + j2) ∧ (j1 * (13 - w0) + j2 = 0 → mob = -1) ∧ (0 < j1 * (13 - w0) + j2 → mob = 0)) (x_6 : Int32) (ex_6 : x_6 = nI j2 + nI w0) (c_7 : 12 < x_6) (hge28 : (13 - w0) ≤ j2) (x_9 : Int32) (ex_9 : x_9 = nI j1 + Int32.ofInt 1) (ej_10 : x_9 = nI (j1 + 1)) : bcb = 0 ∧ brb = 0 ∧ rab = nI ((j1 + 1) * (13 - w0)) ∧ plb = nI ((j1 + 1) * (13 - w0)) ∧ ((j1 + 1) * (13 - w0) = 0 → mob = -1) ∧ (0 < (j1 + 1) * (13 - w0) → mob = 0) := by
  obtain ⟨i1, i2, i3, i4, i5, i6⟩ := iv28
  have e : j2 = 13 - w0 := by omega
  subst e
  rw [Nat.succ_mul]
  exact ⟨i1, i2, i3, i4, i5, i6⟩
theorem lf_X6_seek_12 (a : Nat → Nat) (w0 : Nat) (h0 : Nat) (hw1 : 1 ≤ w0) (hw2 : w0 ≤ 12) (hh1 : 1 ≤ h0) (hh2 : h0 ≤ 6) (j1 : Nat) (bca : Int32) (bra : Int32) (moa : Int32) (raa : Int32) (pla : Int32) (k17 : Nat) (hj17 : j1 ≤ (7 - h0)) (hk17 : (7 - h0) < j1 + (k17 + 1)) (iv17 : bca = 0 ∧ bra = 0 ∧ raa = nI (j1 * (13 - w0)) ∧ pla = nI (j1 * (13 - w0)) ∧ (j1 * (13 - w0) = 0 → moa = -1) ∧ (0 < j1 * (13 - w0) → moa = 0)) (x_1 : Int32) (ex_1 : x_1 = nI j1 + nI h0) (c_2 : ¬ 6 < x_1) (hlt17 : j1 < (7 - h0)) (j2 : Nat) (bcb : Int32) (brb : Int32) (mob : Int32) (rab : Int32) (plb : Int32) (k28 : Nat) (hj28 : j2 ≤ (13 - w0)) (hk28 : (13 - w0) < j2 + (k28 + 1)) (iv28 : bcb = 0 ∧ brb = 0 ∧ rab = nI (j1 * (13 - w0) + j2) ∧ plb = nI (j1 * (13 - w0) + j2) ∧ (j1 * (13 - w0) + j2 = 0 → mob = -1) ∧ (0 < j1 * (13 - w0) + j2 → mob = 0)) (x_6 : Int32) (ex_6 : x_6 = nI j2 + nI w0) (c_7 : ¬ 12 < x_6) : j2 < (13 - w0) := by
  subst_vars
  have e : ¬ nI 12 < nI (j2 + w0) := by rw [← nI_add]; assumption
  have e2 : ¬ 12 < j2 + w0 := fun q => e ((nI_ltI (by decide) (by omega)).mpr q)
  omega
theorem lf_X6_seek_13 (a : Nat → Nat) (w0 : Nat) (h0 : Nat) (hw1 : 1 ≤ w0) (hw2 : w0 ≤ 12) (hh1 : 1 ≤ h0) (hh2 : h0 ≤ 6) (j1 : Nat) (bca : Int32) (bra : Int32) (moa : Int32) (raa : Int32) (pla : Int32) (k17 : Nat) (hj17 : j1 ≤ (7 - h0)) (hk17 : (7 - h0) < j1 + (k17 + 1)) (iv17 : bca = 0 ∧ bra = 0 ∧ raa = nI (j1 * (13 - w0)) ∧ pla = nI (j1 * (13 - w0)) ∧ (j1 * (13 - w0) = 0 → moa = -1) ∧ (0 < j1 * (13 - w0) → moa = 0)) (x_1 : Int32) (ex_1 : x_1 = nI j1 + nI h0) (c_2 : ¬ 6 < x_1) (hlt17 : j1 < (7 - h0)) (j2 : Nat) (bcb : Int32) (brb : Int32) (mob : Int32) (rab : Int32) (plb : Int32) (k28 : Nat) (hj28 : j2 ≤ (13 - w0)) (hk28 : (13 - w0) < j2 + (k28 + 1)) (iv28 : bcb = 0 ∧ brb = 0 ∧ rab = nI (j1 * (13 - w0) + j2) ∧ plb = nI (j1 * (13 - w0) + j2) ∧ (j1 * (13 - w0) + j2 = 0 → mob = -1) ∧ (0 < j1 * (13 - w0) + j2 → mob = 0)) (x_6 : Int32) (ex_6 : x_6 = nI j2 + nI w0) (c_7 : ¬ 12 < x_6) (hlt28 : j2 < (13 - w0)) : j2 + w0 ≤ 12 := by
  omega
theorem lf_X6_seek_14 (a : Nat → Nat) (w0 : Nat) (h0 : Nat) (hw1 : 1 ≤ w0) (hw2 : w0 ≤ 12) (hh1 : 1 ≤ h0) (hh2 : h0 ≤ 6) (j1 : Nat) (bca : Int32) (bra : Int32) (moa : Int32) (raa : Int32) (pla : Int32) (k17 : Nat) (hj17 : j1 ≤ (7 - h0)) (hk17 : (7 - h0) < j1 + (k17 + 1)) (iv17 : bca = 0 ∧ bra = 0 ∧ raa = nI (j1 * (13 - w0)) ∧ pla = nI (j1 * (13 - w0)) ∧ (j1 * (13 - w0) = 0 → moa = -1) ∧ (0 < j1 * (13 - w0) → moa = 0)) (x_1 : Int32) (ex_1 : x_1 = nI j1 + nI h0) (c_2 : ¬ 6 < x_1) (hlt17 : j1 < (7 - h0)) (j2 : Nat) (bcb : Int32) (brb : Int32) (mob : Int32) (rab : Int32) (plb : Int32) (k28 : Nat) (hj28 : j2 ≤ (13 - w0)) (hk28 : (13 - w0) < j2 + (k28 + 1)) (iv28 : bcb = 0 ∧ brb = 0 ∧ rab = nI (j1 * (13 - w0) + j2) ∧ plb = nI (j1 * (13 - w0) + j2) ∧ (j1 * (13 - w0) + j2 = 0 → mob = -1) ∧ (0 < j1 * (13 - w0) + j2 → mob = 0)) (x_6 : Int32) (ex_6 : x_6 = nI j2 + nI w0) (c_7 : ¬ 12 < x_6) (hlt28 : j2 < (13 - w0)) : j1 + h0 ≤ 6 := by
  omega
theorem lf_X6_seek_20 (a : Nat → Nat) (w0 : Nat) (h0 : Nat) (hw1 : 1 ≤ w0) (hw2 : w0 ≤ 12) (hh1 : 1 ≤ h0) (hh2 : h0 ≤ 6) (j1 : Nat) (bca : Int32) (bra : Int32) (moa : Int32) (raa : Int32) (pla : Int32) (k17 : Nat) (hj17 : j1 ≤ (7 - h0)) (hk17 : (7 - h0) < j1 + (k17 + 1)) (iv17 : bca = 0 ∧ bra = 0 ∧ raa = nI (j1 * (13 - w0)) ∧ pla = nI (j1 * (13 - w0)) ∧ (j1 * (13 - w0) = 0 → moa = -1) ∧ (0 < j1 * (13 - w0) → moa = 0)) (x_1 : Int32) (ex_1 : x_1 = nI j1 + nI h0) (c_2 : ¬ 6 < x_1) (hlt17 : j1 < (7 - h0)) (j2 : Nat) (bcb : Int32) (brb : Int32) (mob : Int32) (rab : Int32) (plb : Int32) (k28 : Nat) (hj28 : j2 ≤ (13 - w0)) (hk28 : (13 - w0) < j2 + (k28 + 1)) (iv28 : bcb = 0 ∧ brb = 0 ∧ rab = nI (j1 * (13 - w0) + j2) ∧ plb = nI (j1 * (13 - w0) + j2) ∧ (j1 * (13 - w0) + j2 = 0 → mob = -1) ∧ (0 < j1 * (13 - w0) + j2 → mob = 0)) (x_6 : Int32) (ex_6 : x_6 = nI j2 + nI w0) (c_7 : ¬ 12 < x_6) (hlt28 : j2 < (13 - w0)) (u_17 : Int32 × Int32 × Int32 × Int32 × Int32) (wr_16 : wg mob rab plb bcb brb (nI j2) (nI j1) u_17) (x_18 : Int32) (ex_18 : x_18 = nI j2 + Int32.ofInt 1) (ej_19 : x_18 = nI (j2 + 1)) : u_17.1 = 0 ∧ u_17.2.1 = 0 ∧ u_17.2.2.2.1 = nI (j1 * (13 - w0) + (j2 + 1)) ∧ u_17.2.2.2.2 = nI (j1 * (13 - w0) + (j2 + 1)) ∧ (j1 * (13 - w0) + (j2 + 1) = 0 → u_17.2.2.1 = -1) ∧ (0 < j1 * (13 - w0) + (j2 + 1) → u_17.2.2.1 = 0) := by
  obtain ⟨i1, i2, i3, i4, i5, i6⟩ := iv28
  obtain ⟨w1, w2⟩ := ‹wg mob rab plb bcb brb (nI j2) (nI j1) _›
  rcases Nat.eq_zero_or_pos (j1 * (13 - w0) + j2) with z | z
  · have z2 : j2 = 0 := by omega
    have z1 : j1 * (13 - w0) = 0 := by omega
    have z0 : j1 = 0 := by
      rcases Nat.mul_eq_zero.mp z1 with q | q
      · exact q
      · omega
    have e := w1 (by rw [i5 z]; decide)
    rw [e, i4, z, z0, z2]
    have t0 : 0 * (13 - w0) + (0 + 1) = 1 := by omega
    rw [t0]
    exact ⟨rfl, rfl, rfl, nI_1 0, fun q => absurd q (by decide), fun _ => rfl⟩
  · have e := w2 (i6 z)
    rw [e, i3, i4]
    exact ⟨i1, i2, nI_1 _, nI_1 _, fun q => absurd q (by omega), fun _ => rfl⟩
theorem lf_X6_seek_21 (a : Nat → Nat) (w0 : Nat) (h0 : Nat) (hw1 : 1 ≤ w0) (hw2 : w0 ≤ 12) (hh1 : 1 ≤ h0) (hh2 : h0 ≤ 6) (j1 : Nat) (bca : Int32) (bra : Int32) (moa : Int32) (raa : Int32) (pla : Int32) (k17 : Nat) (hj17 : j1 ≤ (7 - h0)) (hk17 : (7 - h0) < j1 + (k17 + 1)) (iv17 : bca = 0 ∧ bra = 0 ∧ raa = nI (j1 * (13 - w0)) ∧ pla = nI (j1 * (13 - w0)) ∧ (j1 * (13 - w0) = 0 → moa = -1) ∧ (0 < j1 * (13 - w0) → moa = 0)) (x_1 : Int32) (ex_1 : x_1 = nI j1 + nI h0) (c_2 : ¬ 6 < x_1) (hlt17 : j1 < (7 - h0)) : bca = 0 ∧ bra = 0 ∧ raa = nI (j1 * (13 - w0) + 0) ∧ pla = nI (j1 * (13 - w0) + 0) ∧ (j1 * (13 - w0) + 0 = 0 → moa = -1) ∧ (0 < j1 * (13 - w0) + 0 → moa = 0) := by
  exact iv17
theorem lf_X6_seek_22 (a : Nat → Nat) (w0 : Nat) (h0 : Nat) (hw1 : 1 ≤ w0) (hw2 : w0 ≤ 12) (hh1 : 1 ≤ h0) (hh2 : h0 ≤ 6) : (0 : Int32) = 0 ∧ (0 : Int32) = 0 ∧ (0 : Int32) = nI (0 * (13 - w0)) ∧ (0 : Int32) = nI (0 * (13 - w0)) ∧ (0 * (13 - w0) = 0 → (((-1)) : Int32) = -1) ∧ (0 < 0 * (13 - w0) → (((-1)) : Int32) = 0) := by
  exact ⟨rfl, rfl, by rw [Nat.zero_mul]; rfl, by rw [Nat.zero_mul]; rfl, fun _ => rfl, fun q => absurd q (by omega)⟩
set_option maxHeartbeats 4000000 in
set_option maxRecDepth 100000 in
theorem c_X6_seek (l : Launch) (D : va_G) (cI cB cZ cJ : ClassId) (tx : List (ClassId × FieldType)) (a : Nat → Nat) (w0 : Nat) (h0 : Nat) (hw1 : 1 ≤ w0) (hw2 : w0 ≤ 12) (hh1 : 1 ≤ h0) (hh2 : h0 ≤ 6) : WrV l D cI cB cZ cJ tx yX6_seek cX6_seek 5 none 1 0 0 [.ref (a 11), .int (nI w0), .int (nI h0)] [(a 11, .inr (6, [.ref (a 47), .int 0, .int 0, .int 0, .int 0, .int 0])), (a 47, .inl (cI, 72, .inl (fun _ => 0)))] (fun (_ : Unit) => True) (fun _ => [(a 11, .inr (6, [.ref (a 47), .int 0, .int 0, .int 0, .int (nI ((7 - h0) * (13 - w0))), .int (nI ((7 - h0) * (13 - w0)))]))]) := by
  refine wrv_of2 (by decide) (Nat.le_of_ble_eq_true rfl) ?_
  intro p e s m below meth c A ls H locs hC hK hP hD hA hS hl
  obtain ⟨hx, hb, hr, hml, hown, hts, hlocks, hin⟩ := hC
  have hown : s.vm.findClass RX6 = some m.cls := hown
  have hl : lv_has ls 5 [(0, .ref (a 11)), (1, .int (nI w0)), (2, .int (nI h0))] := hl
  refine lv_aload_n hx hb dX6_seek_0 rfl (lv_at hl 0 rfl) ?_
  refine lv_iconst (v := (-1)) hx hb dX6_seek_1 (by decide) ?_
  refine va_put (D := D) (ci := 6) (v := .int (-1)) (ty := .int) (C := RX6) (T := TX6) (N := 6) hx hb hts inT_X6 tyX6 tyX6_ok nmX6 hown hK.1 hP hD hS 0 rfl rfl 3 (by decide) (hts _ k_446) (fun _ h9 => h9) rfl (by decide +kernel) rfl rfl (Nat.le_of_ble_eq_true rfl) dX6_seek_2 (fun H locs hP hD hS => ?_)
  have hP : va_P D vwCl [(a 11, .inr (6, [.ref (a 47), .int 0, .int 0, .int (-1), .int 0, .int 0])), (a 47, .inl (cI, 72, .inl (fun _ => 0)))] H := hP
  have hD : va_D A [(a 11, .inr (6, [.ref (a 47), .int 0, .int 0, .int (-1), .int 0, .int 0])), (a 47, .inl (cI, 72, .inl (fun _ => 0)))] := hD
  refine lv_aload_n hx hb dX6_seek_5 rfl (lv_at hl 0 rfl) ?_
  refine lv_iconst (v := 0) hx hb dX6_seek_6 (by decide) ?_
  refine va_put (D := D) (ci := 6) (v := .int 0) (ty := .int) (C := RX6) (T := TX6) (N := 6) hx hb hts inT_X6 tyX6 tyX6_ok nmX6 hown hK.1 hP hD hS 0 rfl rfl 4 (by decide) (hts _ k_448) (fun _ h9 => h9) rfl (by decide +kernel) rfl rfl (Nat.le_of_ble_eq_true rfl) dX6_seek_7 (fun H locs hP hD hS => ?_)
  have hP : va_P D vwCl [(a 11, .inr (6, [.ref (a 47), .int 0, .int 0, .int (-1), .int 0, .int 0])), (a 47, .inl (cI, 72, .inl (fun _ => 0)))] H := hP
  have hD : va_D A [(a 11, .inr (6, [.ref (a 47), .int 0, .int 0, .int (-1), .int 0, .int 0])), (a 47, .inl (cI, 72, .inl (fun _ => 0)))] := hD
  refine lv_aload_n hx hb dX6_seek_10 rfl (lv_at hl 0 rfl) ?_
  refine lv_iconst (v := 0) hx hb dX6_seek_11 (by decide) ?_
  refine va_put (D := D) (ci := 6) (v := .int 0) (ty := .int) (C := RX6) (T := TX6) (N := 6) hx hb hts inT_X6 tyX6 tyX6_ok nmX6 hown hK.1 hP hD hS 0 rfl rfl 5 (by decide) (hts _ k_450) (fun _ h9 => h9) rfl (by decide +kernel) rfl rfl (Nat.le_of_ble_eq_true rfl) dX6_seek_12 (fun H locs hP hD hS => ?_)
  have hP : va_P D vwCl [(a 11, .inr (6, [.ref (a 47), .int 0, .int 0, .int (-1), .int 0, .int 0])), (a 47, .inl (cI, 72, .inl (fun _ => 0)))] H := hP
  have hD : va_D A [(a 11, .inr (6, [.ref (a 47), .int 0, .int 0, .int (-1), .int 0, .int 0])), (a 47, .inl (cI, 72, .inl (fun _ => 0)))] := hD
  refine lv_iconst (v := 0) hx hb dX6_seek_15 (by decide) ?_
  refine lv_istore_n (lv' := [(3, .int 0), (0, .ref (a 11)), (1, .int (nI w0)), (2, .int (nI h0))]) hx hb dX6_seek_16 rfl hl (by decide) rfl (fun ls hl => ?_)
  have lp17 : ∀ (k17 : Nat) (j1 : Nat) (bca : Int32) (bra : Int32) (moa : Int32) (raa : Int32) (pla : Int32) (H : Heap) (locs : List Loc) (ls : Array Slot), j1 ≤ (7 - h0) → (7 - h0) < j1 + k17 → (bca = 0 ∧ bra = 0 ∧ raa = nI (j1 * (13 - w0)) ∧ pla = nI (j1 * (13 - w0)) ∧ (j1 * (13 - w0) = 0 → moa = -1) ∧ (0 < j1 * (13 - w0) → moa = 0)) → va_P D vwCl [(a 11, .inr (6, [.ref (a 47), .int bca, .int bra, .int moa, .int raa, .int pla])), (a 47, .inl (cI, 72, .inl (fun _ => 0)))] H → va_D A [(a 11, .inr (6, [.ref (a 47), .int bca, .int bra, .int moa, .int raa, .int pla])), (a 47, .inl (cI, 72, .inl (fun _ => 0)))] → va_S A s.heap H locs → lv_has ls 5 [(3, .int (nI j1)), (0, .ref (a 11)), (1, .int (nI w0)), (2, .int (nI h0))] → W p l e (rmX 1 0 0) s m ([.ref (a 11), .int (nI w0), .int (nI h0)] : List Value).toArray below meth c H locs 0 0 (MQ below (va_Qv (fun (_ : Unit) => True) (fun u => BX D A ((fun _ => [(a 11, .inr (6, [.ref (a 47), .int 0, .int 0, .int 0, .int (nI ((7 - h0) * (13 - w0))), .int (nI ((7 - h0) * (13 - w0)))]))]) u)) A) ([.ref (a 11), .int (nI w0), .int (nI h0)] : List Value).toArray s 0 0 A) (F0 m 17 ls []) := by
    intro k17
    induction k17 with
    | zero =>
      intro j1 bca bra moa raa pla H locs ls hj17 hk17 iv17 hP hD hS hl
      exact absurd hk17 (by omega)
    | succ k17 ih17 =>
      intro j1 bca bra moa raa pla H locs ls hj17 hk17 iv17 hP hD hS hl
      refine lv_iload_n hx hb dX6_seek_17 rfl (lv_at hl 0 rfl) ?_
      refine lv_iload_n hx hb dX6_seek_18 rfl (lv_at hl 3 rfl) ?_
      refine lv_iadd hx hb dX6_seek_19 ?_
      refine lv_topi (fun x_1 ex_1 => ?_)
      refine lv_bipush (v := 6) hx hb dX6_seek_20 (by decide) ?_
      refine lv_icmp_gt (tgt := 65) hx hb dX6_seek_22 (by decide) (fun c_2 => ?_) (fun c_2 => ?_)
      · have hge17 : (7 - h0) ≤ j1 := (lf_X6_seek_3 a w0 h0 hw1 hw2 hh1 hh2 j1 bca bra moa raa pla k17 hj17 hk17 iv17 x_1 ex_1 c_2)
        obtain ⟨q1, q2, q3, q4, q5⟩ := (lf_X6_seek_4 a w0 h0 hw1 hw2 hh1 hh2 j1 bca bra moa raa pla k17 hj17 hk17 iv17 x_1 ex_1 c_2 hge17)
        subst q1 q2 q3 q4 q5
        have hP := hP.sub (ws' := [(a 11, .inr (6, [.ref (a 47), .int 0, .int 0, .int 0, .int (nI ((7 - h0) * (13 - w0))), .int (nI ((7 - h0) * (13 - w0)))]))]) [0] rfl
        have hD := hD.sub (ws' := [(a 11, .inr (6, [.ref (a 47), .int 0, .int 0, .int 0, .int (nI ((7 - h0) * (13 - w0))), .int (nI ((7 - h0) * (13 - w0)))]))]) [0] (by decide) rfl
        exact W.vret hx hb hr (fun t ht hW => ⟨⟨(), rfl, trivial, ⟨by rw [ht]; exact hP, hD⟩⟩, hS.F ht⟩) hS.2.2 dX6_seek_65 hlocks
      · have hlt17 : j1 < (7 - h0) := (lf_X6_seek_5 a w0 h0 hw1 hw2 hh1 hh2 j1 bca bra moa raa pla k17 hj17 hk17 iv17 x_1 ex_1 c_2)
        refine lv_iconst (v := 0) hx hb dX6_seek_25 (by decide) ?_
        refine lv_istore (lv' := [(4, .int 0), (3, .int (nI j1)), (0, .ref (a 11)), (1, .int (nI w0)), (2, .int (nI h0))]) hx hb dX6_seek_26 hl (by decide) rfl (fun ls hl => ?_)
        have lp28 : ∀ (k28 : Nat) (j2 : Nat) (bcb : Int32) (brb : Int32) (mob : Int32) (rab : Int32) (plb : Int32) (H : Heap) (locs : List Loc) (ls : Array Slot), j2 ≤ (13 - w0) → (13 - w0) < j2 + k28 → (bcb = 0 ∧ brb = 0 ∧ rab = nI (j1 * (13 - w0) + j2) ∧ plb = nI (j1 * (13 - w0) + j2) ∧ (j1 * (13 - w0) + j2 = 0 → mob = -1) ∧ (0 < j1 * (13 - w0) + j2 → mob = 0)) → va_P D vwCl [(a 11, .inr (6, [.ref (a 47), .int bcb, .int brb, .int mob, .int rab, .int plb])), (a 47, .inl (cI, 72, .inl (fun _ => 0)))] H → va_D A [(a 11, .inr (6, [.ref (a 47), .int bcb, .int brb, .int mob, .int rab, .int plb])), (a 47, .inl (cI, 72, .inl (fun _ => 0)))] → va_S A s.heap H locs → lv_has ls 5 [(4, .int (nI j2)), (3, .int (nI j1)), (0, .ref (a 11)), (1, .int (nI w0)), (2, .int (nI h0))] → W p l e (rmX 1 0 0) s m ([.ref (a 11), .int (nI w0), .int (nI h0)] : List Value).toArray below meth c H locs 0 0 (MQ below (va_Qv (fun (_ : Unit) => True) (fun u => BX D A ((fun _ => [(a 11, .inr (6, [.ref (a 47), .int 0, .int 0, .int 0, .int (nI ((7 - h0) * (13 - w0))), .int (nI ((7 - h0) * (13 - w0)))]))]) u)) A) ([.ref (a 11), .int (nI w0), .int (nI h0)] : List Value).toArray s 0 0 A) (F0 m 28 ls []) := by
          intro k28
          induction k28 with
          | zero =>
            intro j2 bcb brb mob rab plb H locs ls hj28 hk28 iv28 hP hD hS hl
            exact absurd hk28 (by omega)
          | succ k28 ih28 =>
            intro j2 bcb brb mob rab plb H locs ls hj28 hk28 iv28 hP hD hS hl
            refine lv_iload hx hb dX6_seek_28 (lv_at hl 0 rfl) ?_
            refine lv_iload_n hx hb dX6_seek_30 rfl (lv_at hl 3 rfl) ?_
            refine lv_iadd hx hb dX6_seek_31 ?_
            refine lv_topi (fun x_6 ex_6 => ?_)
            refine lv_bipush (v := 12) hx hb dX6_seek_32 (by decide) ?_
            refine lv_icmp_gt (tgt := 59) hx hb dX6_seek_34 (by decide) (fun c_7 => ?_) (fun c_7 => ?_)
            · have hge28 : (13 - w0) ≤ j2 := (lf_X6_seek_8 a w0 h0 hw1 hw2 hh1 hh2 j1 bca bra moa raa pla k17 hj17 hk17 iv17 x_1 ex_1 c_2 hlt17 j2 bcb brb mob rab plb k28 hj28 hk28 iv28 x_6 ex_6 c_7)
              obtain ⟨x_9, ex_9⟩ : ∃ z : Int32, z = nI j1 + Int32.ofInt 1 := ⟨_, rfl⟩
              refine lv_iinc (v := x_9) (lv' := [(3, .int x_9), (4, .int (nI j2)), (0, .ref (a 11)), (1, .int (nI w0)), (2, .int (nI h0))]) hx hb dX6_seek_59 hl (k := 1) rfl (ex_9.symm) (by decide) rfl (fun ls hl => ?_)
              refine lv_goto (tgt := 17) hx hb dX6_seek_62 (by decide) ?_
              have ej_10 : x_9 = nI (j1 + 1) := ex_9.trans (nI_1 j1)
              rw [ej_10] at hl
              exact ih17 (j1 + 1) bcb brb mob rab plb H locs ls (by omega) (by omega) (lf_X6_seek_11 a w0 h0 hw1 hw2 hh1 hh2 j1 bca bra moa raa pla k17 hj17 hk17 iv17 x_1 ex_1 c_2 hlt17 j2 bcb brb mob rab plb k28 hj28 hk28 iv28 x_6 ex_6 c_7 hge28 x_9 ex_9 ej_10) (hP.sub [0, 1] rfl) (hD.sub [0, 1] (by decide) rfl) hS (lv_sub hl [0, 2, 3, 4] rfl)
            · have hlt28 : j2 < (13 - w0) := (lf_X6_seek_12 a w0 h0 hw1 hw2 hh1 hh2 j1 bca bra moa raa pla k17 hj17 hk17 iv17 x_1 ex_1 c_2 hlt17 j2 bcb brb mob rab plb k28 hj28 hk28 iv28 x_6 ex_6 c_7)
              refine lv_aload_n hx hb dX6_seek_37 rfl (lv_at hl 2 rfl) ?_
              refine lv_iload hx hb dX6_seek_38 (lv_at hl 0 rfl) ?_
              refine lv_iload_n hx hb dX6_seek_40 rfl (lv_at hl 1 rfl) ?_
              refine lv_aload_n hx hb dX6_seek_41 rfl (lv_at hl 2 rfl) ?_
              refine lv_iload hx hb dX6_seek_42 (lv_at hl 0 rfl) ?_
              refine lv_iload_n hx hb dX6_seek_44 rfl (lv_at hl 1 rfl) ?_
              refine lv_iload_n hx hb dX6_seek_45 rfl (lv_at hl 3 rfl) ?_
              refine lv_iload_n hx hb dX6_seek_46 rfl (lv_at hl 4 rfl) ?_
              refine eRi (va_runV (As := [.int (nI j2), .int (nI j1), .int (nI w0), .int (nI h0)]) (rest := [.int (nI j1), .int (nI j2), .ref (a 11)]) ⟨hx, hb, hml, hown, hts⟩ (c_X6_amount l D cI cB cZ cJ tx a j2 j1 w0 h0 bcb brb mob rab plb (lf_X6_seek_13 a w0 h0 hw1 hw2 hh1 hh2 j1 bca bra moa raa pla k17 hj17 hk17 iv17 x_1 ex_1 c_2 hlt17 j2 bcb brb mob rab plb k28 hj28 hk28 iv28 x_6 ex_6 c_7 hlt28) (lf_X6_seek_14 a w0 h0 hw1 hw2 hh1 hh2 j1 bca bra moa raa pla k17 hj17 hk17 iv17 x_1 ex_1 c_2 hlt17 j2 bcb brb mob rab plb k28 hj28 hk28 iv28 x_6 ex_6 c_7 hlt28) H.size) (zV hts k_1181 v_X6_amount ⟨Nat.le_of_ble_eq_true rfl, Nat.le_of_ble_eq_true rfl⟩) (pV (pxS hK hP hD [0, 1] (by decide) rfl) hK hP 0 rfl rfl) rfl rfl hl.1 rfl (lv_room (Nat.le_of_ble_eq_true rfl)) dX6_seek_47 ⟨Nat.le_of_ble_eq_true rfl, Nat.le_of_ble_eq_true rfl⟩) hP hS hA (fun r_15 H locs wr_15 hP hS => ?_)
              subst wr_15
              refine eWv (wr := [(a 47, .inl (cI, 72, .inl (fun _ => 0)))]) (va_runV (As := [.int (nI j2), .int (nI j1), .int 0]) (rest := []) ⟨hx, hb, hml, hown, hts⟩ (c_X6_weigh l D cI cB cZ cJ tx a bcb brb mob rab plb (nI j2) (nI j1) H.size) (zV hts k_1185 v_X6_weigh ⟨Nat.le_of_ble_eq_true rfl, Nat.le_of_ble_eq_true rfl⟩) (pV (pxS hK hP hD [0] (by decide) rfl) hK hP 0 rfl rfl) rfl rfl hl.1 rfl (lv_room (Nat.le_of_ble_eq_true rfl)) dX6_seek_50 ⟨Nat.le_of_ble_eq_true rfl, Nat.le_of_ble_eq_true rfl⟩) hP hD hS hA [0] [1] rfl rfl (by decide) (by decide) (fun u_17 H locs wr_16 hP hD hS => ?_)
              have hP : va_P D vwCl [(a 47, .inl (cI, 72, .inl (fun _ => 0))), (a 11, .inr (6, [.ref (a 47), .int u_17.1, .int u_17.2.1, .int u_17.2.2.1, .int u_17.2.2.2.1, .int u_17.2.2.2.2]))] H := hP
              have hD : va_D A [(a 47, .inl (cI, 72, .inl (fun _ => 0))), (a 11, .inr (6, [.ref (a 47), .int u_17.1, .int u_17.2.1, .int u_17.2.2.1, .int u_17.2.2.2.1, .int u_17.2.2.2.2]))] := hD
              obtain ⟨x_18, ex_18⟩ : ∃ z : Int32, z = nI j2 + Int32.ofInt 1 := ⟨_, rfl⟩
              refine lv_iinc (v := x_18) (lv' := [(4, .int x_18), (3, .int (nI j1)), (0, .ref (a 11)), (1, .int (nI w0)), (2, .int (nI h0))]) hx hb dX6_seek_53 hl (k := 0) rfl (ex_18.symm) (by decide) rfl (fun ls hl => ?_)
              refine lv_goto (tgt := 28) hx hb dX6_seek_56 (by decide) ?_
              have ej_19 : x_18 = nI (j2 + 1) := ex_18.trans (nI_1 j2)
              rw [ej_19] at hl
              exact ih28 (j2 + 1) u_17.1 u_17.2.1 u_17.2.2.1 u_17.2.2.2.1 u_17.2.2.2.2 H locs ls (by omega) (by omega) (lf_X6_seek_20 a w0 h0 hw1 hw2 hh1 hh2 j1 bca bra moa raa pla k17 hj17 hk17 iv17 x_1 ex_1 c_2 hlt17 j2 bcb brb mob rab plb k28 hj28 hk28 iv28 x_6 ex_6 c_7 hlt28 u_17 wr_16 x_18 ex_18 ej_19) (hP.sub [1, 0] rfl) (hD.sub [1, 0] (by decide) rfl) hS (lv_sub hl [0, 1, 2, 3, 4] rfl)
        exact lp28 ((13 - w0) + 1) 0 bca bra moa raa pla H locs ls (by omega) (by omega) (lf_X6_seek_21 a w0 h0 hw1 hw2 hh1 hh2 j1 bca bra moa raa pla k17 hj17 hk17 iv17 x_1 ex_1 c_2 hlt17) (hP.sub [0, 1] rfl) (hD.sub [0, 1] (by decide) rfl) hS (lv_sub hl [0, 1, 2, 3, 4] rfl)
  exact lp17 ((7 - h0) + 1) 0 0 0 (-1) 0 0 H locs ls (by omega) (by omega) (lf_X6_seek_22 a w0 h0 hw1 hw2 hh1 hh2) (hP.sub [0, 1] rfl) (hD.sub [0, 1] (by decide) rfl) hS (lv_sub hl [0, 1, 2, 3] rfl)

theorem lf_X11_body_3 (a : Nat → Nat) (n1 : Int32) (n2 : Int32) (n3 : Int32) (c_2 : ¬ ((1 : Int32) ≤ n1 ∧ n1 ≤ 12)) : ((-1) : Int32) = sp_body n1 n2 n3 := by
  subst_vars
  unfold sp_body
  first
    | (rw [if_pos ⟨by assumption, by assumption, by assumption⟩]; first | rfl | (rw [if_neg (by first | decide | grind)]; first | exact T_eq (by assumption) (by assumption)))
    | (rw [if_neg (by grind)]; done)
theorem lf_X11_body_6 (a : Nat → Nat) (n1 : Int32) (n2 : Int32) (n3 : Int32) (c_2 : (1 : Int32) ≤ n1 ∧ n1 ≤ 12) (c_5 : ¬ ((1 : Int32) ≤ n2 ∧ n2 ≤ 6)) : ((-1) : Int32) = sp_body n1 n2 n3 := by
  subst_vars
  unfold sp_body
  first
    | (rw [if_pos ⟨by assumption, by assumption, by assumption⟩]; first | rfl | (rw [if_neg (by first | decide | grind)]; first | exact T_eq (by assumption) (by assumption)))
    | (rw [if_neg (by grind)]; done)
theorem lf_X11_body_9 (a : Nat → Nat) (n1 : Int32) (n2 : Int32) (n3 : Int32) (c_2 : (1 : Int32) ≤ n1 ∧ n1 ≤ 12) (c_5 : (1 : Int32) ≤ n2 ∧ n2 ≤ 6) (c_8 : (0 : Int32) ≤ n3 ∧ n3 ≤ 4) (w0 : Nat) (w0a : 1 ≤ w0) (w0b : w0 ≤ 12) (w0e : n1 = nI w0) (h0 : Nat) (h0a : 1 ≤ h0) (h0b : h0 ≤ 6) (h0e : n2 = nI h0) : 1 ≤ w0 := by
  assumption
theorem lf_X11_body_10 (a : Nat → Nat) (n1 : Int32) (n2 : Int32) (n3 : Int32) (c_2 : (1 : Int32) ≤ n1 ∧ n1 ≤ 12) (c_5 : (1 : Int32) ≤ n2 ∧ n2 ≤ 6) (c_8 : (0 : Int32) ≤ n3 ∧ n3 ≤ 4) (w0 : Nat) (w0a : 1 ≤ w0) (w0b : w0 ≤ 12) (w0e : n1 = nI w0) (h0 : Nat) (h0a : 1 ≤ h0) (h0b : h0 ≤ 6) (h0e : n2 = nI h0) : w0 ≤ 12 := by
  assumption
theorem lf_X11_body_11 (a : Nat → Nat) (n1 : Int32) (n2 : Int32) (n3 : Int32) (c_2 : (1 : Int32) ≤ n1 ∧ n1 ≤ 12) (c_5 : (1 : Int32) ≤ n2 ∧ n2 ≤ 6) (c_8 : (0 : Int32) ≤ n3 ∧ n3 ≤ 4) (w0 : Nat) (w0a : 1 ≤ w0) (w0b : w0 ≤ 12) (w0e : n1 = nI w0) (h0 : Nat) (h0a : 1 ≤ h0) (h0b : h0 ≤ 6) (h0e : n2 = nI h0) : 1 ≤ h0 := by
  assumption
theorem lf_X11_body_12 (a : Nat → Nat) (n1 : Int32) (n2 : Int32) (n3 : Int32) (c_2 : (1 : Int32) ≤ n1 ∧ n1 ≤ 12) (c_5 : (1 : Int32) ≤ n2 ∧ n2 ≤ 6) (c_8 : (0 : Int32) ≤ n3 ∧ n3 ≤ 4) (w0 : Nat) (w0a : 1 ≤ w0) (w0b : w0 ≤ 12) (w0e : n1 = nI w0) (h0 : Nat) (h0a : 1 ≤ h0) (h0b : h0 ≤ 6) (h0e : n2 = nI h0) : h0 ≤ 6 := by
  assumption
theorem lf_X11_body_16 (a : Nat → Nat) (n1 : Int32) (n2 : Int32) (n3 : Int32) (c_2 : (1 : Int32) ≤ n1 ∧ n1 ≤ 12) (c_5 : (1 : Int32) ≤ n2 ∧ n2 ≤ 6) (c_8 : (0 : Int32) ≤ n3 ∧ n3 ≤ 4) (w0 : Nat) (w0a : 1 ≤ w0) (w0b : w0 ≤ 12) (w0e : n1 = nI w0) (h0 : Nat) (h0a : 1 ≤ h0) (h0b : h0 ≤ 6) (h0e : n2 = nI h0) (c_15 : n3 = 0) : (0 : Int32) = sp_body n1 n2 n3 := by
  subst_vars
  unfold sp_body
  first
    | (rw [if_pos ⟨by assumption, by assumption, by assumption⟩]; first | rfl | (rw [if_neg (by first | decide | grind)]; first | exact T_eq (by assumption) (by assumption)))
    | (rw [if_neg (by grind)]; done)
theorem lf_X11_body_18 (a : Nat → Nat) (n1 : Int32) (n2 : Int32) (n3 : Int32) (c_2 : (1 : Int32) ≤ n1 ∧ n1 ≤ 12) (c_5 : (1 : Int32) ≤ n2 ∧ n2 ≤ 6) (c_8 : (0 : Int32) ≤ n3 ∧ n3 ≤ 4) (w0 : Nat) (w0a : 1 ≤ w0) (w0b : w0 ≤ 12) (w0e : n1 = nI w0) (h0 : Nat) (h0a : 1 ≤ h0) (h0b : h0 ≤ 6) (h0e : n2 = nI h0) (c_15 : ¬ n3 = 0) (c_17 : n3 = 1) : (0 : Int32) = sp_body n1 n2 n3 := by
  subst_vars
  unfold sp_body
  first
    | (rw [if_pos ⟨by assumption, by assumption, by assumption⟩]; first | rfl | (rw [if_neg (by first | decide | grind)]; first | exact T_eq (by assumption) (by assumption)))
    | (rw [if_neg (by grind)]; done)
theorem lf_X11_body_20 (a : Nat → Nat) (n1 : Int32) (n2 : Int32) (n3 : Int32) (c_2 : (1 : Int32) ≤ n1 ∧ n1 ≤ 12) (c_5 : (1 : Int32) ≤ n2 ∧ n2 ≤ 6) (c_8 : (0 : Int32) ≤ n3 ∧ n3 ≤ 4) (w0 : Nat) (w0a : 1 ≤ w0) (w0b : w0 ≤ 12) (w0e : n1 = nI w0) (h0 : Nat) (h0a : 1 ≤ h0) (h0b : h0 ≤ 6) (h0e : n2 = nI h0) (c_15 : ¬ n3 = 0) (c_17 : ¬ n3 = 1) (c_19 : n3 = 2) : (0 : Int32) = sp_body n1 n2 n3 := by
  subst_vars
  unfold sp_body
  first
    | (rw [if_pos ⟨by assumption, by assumption, by assumption⟩]; first | rfl | (rw [if_neg (by first | decide | grind)]; first | exact T_eq (by assumption) (by assumption)))
    | (rw [if_neg (by grind)]; done)
theorem lf_X11_body_22 (a : Nat → Nat) (n1 : Int32) (n2 : Int32) (n3 : Int32) (c_2 : (1 : Int32) ≤ n1 ∧ n1 ≤ 12) (c_5 : (1 : Int32) ≤ n2 ∧ n2 ≤ 6) (c_8 : (0 : Int32) ≤ n3 ∧ n3 ≤ 4) (w0 : Nat) (w0a : 1 ≤ w0) (w0b : w0 ≤ 12) (w0e : n1 = nI w0) (h0 : Nat) (h0a : 1 ≤ h0) (h0b : h0 ≤ 6) (h0e : n2 = nI h0) (c_15 : ¬ n3 = 0) (c_17 : ¬ n3 = 1) (c_19 : ¬ n3 = 2) (c_21 : n3 = 3) : (nI ((7 - h0) * (13 - w0)) : Int32) = sp_body n1 n2 n3 := by
  subst_vars
  unfold sp_body
  first
    | (rw [if_pos ⟨by assumption, by assumption, by assumption⟩]; first | rfl | (rw [if_neg (by first | decide | grind)]; first | exact T_eq (by assumption) (by assumption)))
    | (rw [if_neg (by grind)]; done)
theorem lf_X11_body_23 (a : Nat → Nat) (n1 : Int32) (n2 : Int32) (n3 : Int32) (c_2 : (1 : Int32) ≤ n1 ∧ n1 ≤ 12) (c_5 : (1 : Int32) ≤ n2 ∧ n2 ≤ 6) (c_8 : (0 : Int32) ≤ n3 ∧ n3 ≤ 4) (w0 : Nat) (w0a : 1 ≤ w0) (w0b : w0 ≤ 12) (w0e : n1 = nI w0) (h0 : Nat) (h0a : 1 ≤ h0) (h0b : h0 ≤ 6) (h0e : n2 = nI h0) (c_15 : ¬ n3 = 0) (c_17 : ¬ n3 = 1) (c_19 : ¬ n3 = 2) (c_21 : ¬ n3 = 3) : n3.toInt < 0 ∨ 3 < n3.toInt := by
  have e : ∀ k : Int32, ¬ n3 = k → n3.toInt ≠ k.toInt := fun k h q => h (Int32.toInt_inj.mp q)
  have e0 := e 0 ‹¬ n3 = 0›
  have z0 : (0 : Int32).toInt = 0 := by decide
  have e1 := e 1 ‹¬ n3 = 1›
  have z1 : (1 : Int32).toInt = 1 := by decide
  have e2 := e 2 ‹¬ n3 = 2›
  have z2 : (2 : Int32).toInt = 2 := by decide
  have e3 := e 3 ‹¬ n3 = 3›
  have z3 : (3 : Int32).toInt = 3 := by decide
  omega
theorem lf_X11_body_24 (a : Nat → Nat) (n1 : Int32) (n2 : Int32) (n3 : Int32) (c_2 : (1 : Int32) ≤ n1 ∧ n1 ≤ 12) (c_5 : (1 : Int32) ≤ n2 ∧ n2 ≤ 6) (c_8 : (0 : Int32) ≤ n3 ∧ n3 ≤ 4) (w0 : Nat) (w0a : 1 ≤ w0) (w0b : w0 ≤ 12) (w0e : n1 = nI w0) (h0 : Nat) (h0a : 1 ≤ h0) (h0b : h0 ≤ 6) (h0e : n2 = nI h0) (c_15 : ¬ n3 = 0) (c_17 : ¬ n3 = 1) (c_19 : ¬ n3 = 2) (c_21 : ¬ n3 = 3) : (nI ((7 - h0) * (13 - w0)) : Int32) = sp_body n1 n2 n3 := by
  subst_vars
  unfold sp_body
  first
    | (rw [if_pos ⟨by assumption, by assumption, by assumption⟩]; first | rfl | (rw [if_neg (by first | decide | grind)]; first | exact T_eq (by assumption) (by assumption)))
    | (rw [if_neg (by grind)]; done)
theorem lf_X11_body_25 (a : Nat → Nat) (n1 : Int32) (n2 : Int32) (n3 : Int32) (c_2 : (1 : Int32) ≤ n1 ∧ n1 ≤ 12) (c_5 : (1 : Int32) ≤ n2 ∧ n2 ≤ 6) (c_8 : ¬ ((0 : Int32) ≤ n3 ∧ n3 ≤ 4)) : ((-1) : Int32) = sp_body n1 n2 n3 := by
  subst_vars
  unfold sp_body
  first
    | (rw [if_pos ⟨by assumption, by assumption, by assumption⟩]; first | rfl | (rw [if_neg (by first | decide | grind)]; first | exact T_eq (by assumption) (by assumption)))
    | (rw [if_neg (by grind)]; done)
set_option maxHeartbeats 4000000 in
set_option maxRecDepth 100000 in
theorem c_X11_body (l : Launch) (D : va_G) (cI cB cZ cJ : ClassId) (tx : List (ClassId × FieldType)) (a : Nat → Nat) (n1 : Int32) (n2 : Int32) (n3 : Int32) : WrI l D cI cB cZ cJ tx yX11_body cX11_body 4 (some .int) 2 0 0 [.ref (a 0), .int n1, .int n2, .int n3] [(a 0, .inr (11, [.ref (a 1), .ref (a 2), .ref (a 3), .ref (a 4), .ref (a 5), .ref (a 6), .ref (a 7), .ref (a 8), .ref (a 9), .ref (a 10), .ref (a 11), .ref (a 12), .int 100])), (a 11, .inr (6, [.ref (a 47), .int 0, .int 0, .int 0, .int 0, .int 0])), (a 47, .inl (cI, 72, .inl (fun _ => 0)))] (fun (r : Int32) (_ : Unit) => r = sp_body n1 n2 n3) (fun _ => []) := by
  refine wri_of2 (by decide) (Nat.le_of_ble_eq_true rfl) ?_
  intro p e s m below meth c A ls H locs hC hK hP hD hA hS hl
  obtain ⟨hx, hb, hr, hml, hown, hts, hlocks, hin⟩ := hC
  have hown : s.vm.findClass RX11 = some m.cls := hown
  have hl : lv_has ls 4 [(0, .ref (a 0)), (1, .int n1), (2, .int n2), (3, .int n3)] := hl
  refine lv_iload_n hx hb dX11_body_0 rfl (lv_at hl 1 rfl) ?_
  refine lv_iconst (v := 1) hx hb dX11_body_1 (by decide) ?_
  refine lv_bipush (v := 12) hx hb dX11_body_2 (by decide) ?_
  refine eRi (va_runS (As := [.int n1, .int 1, .int 12]) (rest := []) ⟨hx, hb, hml, hown, hts⟩ (c_X11_within l D cI cB cZ cJ tx n1 1 12 H.size) (zS hts k_527 v_X11_within ⟨Nat.le_of_ble_eq_true rfl, Nat.le_of_ble_eq_true rfl⟩) (px0 hK) rfl rfl hl.1 rfl (lv_room (Nat.le_of_ble_eq_true rfl)) dX11_body_4 ⟨Nat.le_of_ble_eq_true rfl, Nat.le_of_ble_eq_true rfl⟩) hP hS hA (fun r_1 H locs wr_1 hP hS => ?_)
  subst wr_1
  refine lv_bi_eq (tgt := 29) hx hb dX11_body_7 (by decide) (fun c_2 => ?_) (fun c_2 => ?_)
  · refine lv_iconst (v := (-1)) hx hb dX11_body_29 (by decide) ?_
    exact W.iret (v := (-1)) hx hb hr (fun t ht hW => ⟨⟨((-1) : Int32), (), rfl, (lf_X11_body_3 a n1 n2 n3 c_2), bx0⟩, hS.F ht⟩) hS.2.2 dX11_body_30 hlocks
  · refine lv_iload_n hx hb dX11_body_10 rfl (lv_at hl 2 rfl) ?_
    refine lv_iconst (v := 1) hx hb dX11_body_11 (by decide) ?_
    refine lv_bipush (v := 6) hx hb dX11_body_12 (by decide) ?_
    refine eRi (va_runS (As := [.int n2, .int 1, .int 6]) (rest := []) ⟨hx, hb, hml, hown, hts⟩ (c_X11_within l D cI cB cZ cJ tx n2 1 6 H.size) (zS hts k_527 v_X11_within ⟨Nat.le_of_ble_eq_true rfl, Nat.le_of_ble_eq_true rfl⟩) (px0 hK) rfl rfl hl.1 rfl (lv_room (Nat.le_of_ble_eq_true rfl)) dX11_body_14 ⟨Nat.le_of_ble_eq_true rfl, Nat.le_of_ble_eq_true rfl⟩) hP hS hA (fun r_4 H locs wr_4 hP hS => ?_)
    subst wr_4
    refine lv_bi_eq (tgt := 29) hx hb dX11_body_17 (by decide) (fun c_5 => ?_) (fun c_5 => ?_)
    · refine lv_iconst (v := (-1)) hx hb dX11_body_29 (by decide) ?_
      exact W.iret (v := (-1)) hx hb hr (fun t ht hW => ⟨⟨((-1) : Int32), (), rfl, (lf_X11_body_6 a n1 n2 n3 c_2 c_5), bx0⟩, hS.F ht⟩) hS.2.2 dX11_body_30 hlocks
    · refine lv_iload_n hx hb dX11_body_20 rfl (lv_at hl 3 rfl) ?_
      refine lv_iconst (v := 0) hx hb dX11_body_21 (by decide) ?_
      refine lv_iconst (v := 4) hx hb dX11_body_22 (by decide) ?_
      refine eRi (va_runS (As := [.int n3, .int 0, .int 4]) (rest := []) ⟨hx, hb, hml, hown, hts⟩ (c_X11_within l D cI cB cZ cJ tx n3 0 4 H.size) (zS hts k_527 v_X11_within ⟨Nat.le_of_ble_eq_true rfl, Nat.le_of_ble_eq_true rfl⟩) (px0 hK) rfl rfl hl.1 rfl (lv_room (Nat.le_of_ble_eq_true rfl)) dX11_body_23 ⟨Nat.le_of_ble_eq_true rfl, Nat.le_of_ble_eq_true rfl⟩) hP hS hA (fun r_7 H locs wr_7 hP hS => ?_)
      subst wr_7
      refine lv_bi_ne (tgt := 31) hx hb dX11_body_26 (by decide) (fun c_8 => ?_) (fun c_8 => ?_)
      · obtain ⟨w0, w0a, w0b, w0e⟩ := of_rng 1 12 rfl rfl c_2
        subst w0e
        obtain ⟨h0, h0a, h0b, h0e⟩ := of_rng 1 6 rfl rfl c_5
        subst h0e
        refine lv_aload_n hx hb dX11_body_31 rfl (lv_at hl 0 rfl) ?_
        refine va_get (D := D) (ci := 11) (v := .ref (a 11)) (C := RX11) (T := TX11) (N := 13) hx hb hts inT_X11 hown hK.1 hP 0 rfl rfl 10 (by decide) (hts _ k_493) (fun _ h9 => h9) rfl dX11_body_32 ?_
        refine lv_iload_n hx hb dX11_body_35 rfl (lv_at hl 1 rfl) ?_
        refine lv_iload_n hx hb dX11_body_36 rfl (lv_at hl 2 rfl) ?_
        refine eWv (wr := [(a 0, .inr (11, [.ref (a 1), .ref (a 2), .ref (a 3), .ref (a 4), .ref (a 5), .ref (a 6), .ref (a 7), .ref (a 8), .ref (a 9), .ref (a 10), .ref (a 11), .ref (a 12), .int 100]))]) (va_runV (As := [.int (nI w0), .int (nI h0)]) (rest := []) ⟨hx, hb, hml, hown, hts⟩ (c_X6_seek l D cI cB cZ cJ tx a w0 h0 (lf_X11_body_9 a (nI w0) (nI h0) n3 c_2 c_5 c_8 w0 w0a w0b rfl h0 h0a h0b rfl) (lf_X11_body_10 a (nI w0) (nI h0) n3 c_2 c_5 c_8 w0 w0a w0b rfl h0 h0a h0b rfl) (lf_X11_body_11 a (nI w0) (nI h0) n3 c_2 c_5 c_8 w0 w0a w0b rfl h0 h0a h0b rfl) (lf_X11_body_12 a (nI w0) (nI h0) n3 c_2 c_5 c_8 w0 w0a w0b rfl h0 h0a h0b rfl) H.size) (zV hts k_1177 v_X6_seek ⟨Nat.le_of_ble_eq_true rfl, Nat.le_of_ble_eq_true rfl⟩) (pV (pxS hK hP hD [1, 2] (by decide) rfl) hK hP 1 rfl rfl) rfl rfl hl.1 rfl (lv_room (Nat.le_of_ble_eq_true rfl)) dX11_body_37 ⟨Nat.le_of_ble_eq_true rfl, Nat.le_of_ble_eq_true rfl⟩) hP hD hS hA [1, 2] [0] rfl rfl (by decide) (by decide) (fun u_14 H locs wr_13 hP hD hS => ?_)
        have hP : va_P D vwCl [(a 0, .inr (11, [.ref (a 1), .ref (a 2), .ref (a 3), .ref (a 4), .ref (a 5), .ref (a 6), .ref (a 7), .ref (a 8), .ref (a 9), .ref (a 10), .ref (a 11), .ref (a 12), .int 100])), (a 11, .inr (6, [.ref (a 47), .int 0, .int 0, .int 0, .int (nI ((7 - h0) * (13 - w0))), .int (nI ((7 - h0) * (13 - w0)))]))] H := hP
        have hD : va_D A [(a 0, .inr (11, [.ref (a 1), .ref (a 2), .ref (a 3), .ref (a 4), .ref (a 5), .ref (a 6), .ref (a 7), .ref (a 8), .ref (a 9), .ref (a 10), .ref (a 11), .ref (a 12), .int 100])), (a 11, .inr (6, [.ref (a 47), .int 0, .int 0, .int 0, .int (nI ((7 - h0) * (13 - w0))), .int (nI ((7 - h0) * (13 - w0)))]))] := hD
        refine lv_iload_n hx hb dX11_body_40 rfl (lv_at hl 3 rfl) ?_
        by_cases c_15 : n3 = 0
        · subst c_15
          refine lv_tableIn (off := 31) (tgt := 72) hx hb dX11_body_41 (by decide) (by decide) rfl (by decide) ?_
          refine lv_aload_n hx hb dX11_body_72 rfl (lv_at hl 0 rfl) ?_
          refine va_get (D := D) (ci := 11) (v := .ref (a 11)) (C := RX11) (T := TX11) (N := 13) hx hb hts inT_X11 hown hK.1 hP 0 rfl rfl 10 (by decide) (hts _ k_493) (fun _ h9 => h9) rfl dX11_body_73 ?_
          refine va_getN (D := D) (ci := 6) (v := .int 0) (C := RX6) (T := TX6) (N := 6) hx hb hts inT_X6 hown hK.1 hP 1 rfl rfl 1 (by decide) (va_Nw.use rfl (hK.2.2.1 _ n_443)) (fun _ h9 => h9) rfl dX11_body_76 ?_
          exact W.iret (v := 0) hx hb hr (fun t ht hW => ⟨⟨(0 : Int32), (), rfl, (lf_X11_body_16 a (nI w0) (nI h0) 0 c_2 c_5 c_8 w0 w0a w0b rfl h0 h0a h0b rfl rfl), bx0⟩, hS.F ht⟩) hS.2.2 dX11_body_79 hlocks
        by_cases c_17 : n3 = 1
        · subst c_17
          refine lv_tableIn (off := 39) (tgt := 80) hx hb dX11_body_41 (by decide) (by decide) rfl (by decide) ?_
          refine lv_aload_n hx hb dX11_body_80 rfl (lv_at hl 0 rfl) ?_
          refine va_get (D := D) (ci := 11) (v := .ref (a 11)) (C := RX11) (T := TX11) (N := 13) hx hb hts inT_X11 hown hK.1 hP 0 rfl rfl 10 (by decide) (hts _ k_493) (fun _ h9 => h9) rfl dX11_body_81 ?_
          refine va_getN (D := D) (ci := 6) (v := .int 0) (C := RX6) (T := TX6) (N := 6) hx hb hts inT_X6 hown hK.1 hP 1 rfl rfl 2 (by decide) (va_Nw.use rfl (hK.2.2.1 _ n_445)) (fun _ h9 => h9) rfl dX11_body_84 ?_
          exact W.iret (v := 0) hx hb hr (fun t ht hW => ⟨⟨(0 : Int32), (), rfl, (lf_X11_body_18 a (nI w0) (nI h0) 1 c_2 c_5 c_8 w0 w0a w0b rfl h0 h0a h0b rfl c_15 rfl), bx0⟩, hS.F ht⟩) hS.2.2 dX11_body_87 hlocks
        by_cases c_19 : n3 = 2
        · subst c_19
          refine lv_tableIn (off := 47) (tgt := 88) hx hb dX11_body_41 (by decide) (by decide) rfl (by decide) ?_
          refine lv_aload_n hx hb dX11_body_88 rfl (lv_at hl 0 rfl) ?_
          refine va_get (D := D) (ci := 11) (v := .ref (a 11)) (C := RX11) (T := TX11) (N := 13) hx hb hts inT_X11 hown hK.1 hP 0 rfl rfl 10 (by decide) (hts _ k_493) (fun _ h9 => h9) rfl dX11_body_89 ?_
          refine va_getN (D := D) (ci := 6) (v := .int 0) (C := RX6) (T := TX6) (N := 6) hx hb hts inT_X6 hown hK.1 hP 1 rfl rfl 3 (by decide) (va_Nw.use rfl (hK.2.2.1 _ n_447)) (fun _ h9 => h9) rfl dX11_body_92 ?_
          exact W.iret (v := 0) hx hb hr (fun t ht hW => ⟨⟨(0 : Int32), (), rfl, (lf_X11_body_20 a (nI w0) (nI h0) 2 c_2 c_5 c_8 w0 w0a w0b rfl h0 h0a h0b rfl c_15 c_17 rfl), bx0⟩, hS.F ht⟩) hS.2.2 dX11_body_95 hlocks
        by_cases c_21 : n3 = 3
        · subst c_21
          refine lv_tableIn (off := 55) (tgt := 96) hx hb dX11_body_41 (by decide) (by decide) rfl (by decide) ?_
          refine lv_aload_n hx hb dX11_body_96 rfl (lv_at hl 0 rfl) ?_
          refine va_get (D := D) (ci := 11) (v := .ref (a 11)) (C := RX11) (T := TX11) (N := 13) hx hb hts inT_X11 hown hK.1 hP 0 rfl rfl 10 (by decide) (hts _ k_493) (fun _ h9 => h9) rfl dX11_body_97 ?_
          refine va_getN (D := D) (ci := 6) (v := .int (nI ((7 - h0) * (13 - w0)))) (C := RX6) (T := TX6) (N := 6) hx hb hts inT_X6 hown hK.1 hP 1 rfl rfl 4 (by decide) (va_Nw.use rfl (hK.2.2.1 _ n_449)) (fun _ h9 => h9) rfl dX11_body_100 ?_
          exact W.iret (v := nI ((7 - h0) * (13 - w0))) hx hb hr (fun t ht hW => ⟨⟨(nI ((7 - h0) * (13 - w0)) : Int32), (), rfl, (lf_X11_body_22 a (nI w0) (nI h0) 3 c_2 c_5 c_8 w0 w0a w0b rfl h0 h0a h0b rfl c_15 c_17 c_19 rfl), bx0⟩, hS.F ht⟩) hS.2.2 dX11_body_103 hlocks
        refine lv_tableOut (tgt := 104) hx hb dX11_body_41 (lf_X11_body_23 a (nI w0) (nI h0) n3 c_2 c_5 c_8 w0 w0a w0b rfl h0 h0a h0b rfl c_15 c_17 c_19 c_21) (by decide) ?_
        refine lv_aload_n hx hb dX11_body_104 rfl (lv_at hl 0 rfl) ?_
        refine va_get (D := D) (ci := 11) (v := .ref (a 11)) (C := RX11) (T := TX11) (N := 13) hx hb hts inT_X11 hown hK.1 hP 0 rfl rfl 10 (by decide) (hts _ k_493) (fun _ h9 => h9) rfl dX11_body_105 ?_
        refine va_getN (D := D) (ci := 6) (v := .int (nI ((7 - h0) * (13 - w0)))) (C := RX6) (T := TX6) (N := 6) hx hb hts inT_X6 hown hK.1 hP 1 rfl rfl 5 (by decide) (va_Nw.use rfl (hK.2.2.1 _ n_451)) (fun _ h9 => h9) rfl dX11_body_108 ?_
        exact W.iret (v := nI ((7 - h0) * (13 - w0))) hx hb hr (fun t ht hW => ⟨⟨(nI ((7 - h0) * (13 - w0)) : Int32), (), rfl, (lf_X11_body_24 a (nI w0) (nI h0) n3 c_2 c_5 c_8 w0 w0a w0b rfl h0 h0a h0b rfl c_15 c_17 c_19 c_21), bx0⟩, hS.F ht⟩) hS.2.2 dX11_body_111 hlocks
      · refine lv_iconst (v := (-1)) hx hb dX11_body_29 (by decide) ?_
        exact W.iret (v := (-1)) hx hb hr (fun t ht hW => ⟨⟨((-1) : Int32), (), rfl, (lf_X11_body_25 a n1 n2 n3 c_2 c_5 c_8), bx0⟩, hS.F ht⟩) hS.2.2 dX11_body_30 hlocks

theorem lf_X12_muchAt_2 (h : Nat) (q : Nat → Nat) (i : Nat → Int32) (c0 : Nat) (r0 : Nat) (w0 : Nat) (h0 : Nat) (hw : c0 + w0 ≤ 12) (hh : r0 + h0 ≤ 6) (j1 : Nat) (k6 : Nat) (hj6 : j1 ≤ w0) (hk6 : w0 < j1 + (k6 + 1)) (c_1 : nI w0 ≤ nI j1) : (0 : Int32) = 0 := by
  rfl
theorem lf_X12_muchAt_3 (h : Nat) (q : Nat → Nat) (i : Nat → Int32) (c0 : Nat) (r0 : Nat) (w0 : Nat) (h0 : Nat) (hw : c0 + w0 ≤ 12) (hh : r0 + h0 ≤ 6) (j1 : Nat) (k6 : Nat) (hj6 : j1 ≤ w0) (hk6 : w0 < j1 + (k6 + 1)) (c_1 : ¬ nI w0 ≤ nI j1) : j1 < w0 := by
  rcases Nat.lt_or_ge j1 w0 with q | q
  · exact q
  · exact absurd (nI_le q (by omega)) (by assumption)
theorem lf_X12_muchAt_7 (h : Nat) (q : Nat → Nat) (i : Nat → Int32) (c0 : Nat) (r0 : Nat) (w0 : Nat) (h0 : Nat) (hw : c0 + w0 ≤ 12) (hh : r0 + h0 ≤ 6) (j1 : Nat) (k6 : Nat) (hj6 : j1 ≤ w0) (hk6 : w0 < j1 + (k6 + 1)) (c_1 : ¬ nI w0 ≤ nI j1) (hlt6 : j1 < w0) (j2 : Nat) (k15 : Nat) (hj15 : j2 ≤ h0) (hk15 : h0 < j2 + (k15 + 1)) (c_4 : ¬ nI h0 ≤ nI j2) : j2 < h0 := by
  rcases Nat.lt_or_ge j2 h0 with q | q
  · exact q
  · exact absurd (nI_le q (by omega)) (by assumption)
theorem lf_X12_muchAt_12 (h : Nat) (q : Nat → Nat) (i : Nat → Int32) (c0 : Nat) (r0 : Nat) (w0 : Nat) (h0 : Nat) (hw : c0 + w0 ≤ 12) (hh : r0 + h0 ≤ 6) (j1 : Nat) (k6 : Nat) (hj6 : j1 ≤ w0) (hk6 : w0 < j1 + (k6 + 1)) (c_1 : ¬ nI w0 ≤ nI j1) (hlt6 : j1 < w0) (j2 : Nat) (k15 : Nat) (hj15 : j2 ≤ h0) (hk15 : h0 < j2 + (k15 + 1)) (c_4 : ¬ nI h0 ≤ nI j2) (hlt15 : j2 < h0) (x_8 : Int32) (ex_8 : x_8 = nI r0 + nI j2) (x_9 : Int32) (ex_9 : x_9 = 12 * x_8) (x_10 : Int32) (ex_10 : x_10 = x_9 + nI c0) (x_11 : Int32) (ex_11 : x_11 = x_10 + nI j1) : vp_in x_11 72 := by
  first | (unfold vp_in; decide) | (subst_vars; rw [show (12 : Int32) = nI 12 from rfl, nI_add, pk_mul, nI_add, nI_add]; exact vp_in_nI (by omega) (by decide))
set_option maxHeartbeats 4000000 in
set_option maxRecDepth 100000 in
theorem c_X12_muchAt (l : Launch) (D : va_G) (cI cB cZ cJ : ClassId) (tx : List (ClassId × FieldType)) (h : Nat) (q : Nat → Nat) (i : Nat → Int32) (c0 : Nat) (r0 : Nat) (w0 : Nat) (h0 : Nat) (hw : c0 + w0 ≤ 12) (hh : r0 + h0 ≤ 6) : RdI l D cI cB cZ cJ tx yX12_muchAt cX12_muchAt 8 (some .int) 0 [.ref h, .int (nI c0), .int (nI r0), .int (nI w0), .int (nI h0)] [(h, .inr (12, mG q i)), (q 74, .inl (cI, 72, .inl (fun _ => 0)))] (fun r => r = 0) := by
  refine rdi_of2 (by decide) (Nat.le_of_ble_eq_true rfl) ?_
  intro p e s m below meth c A ls H locs hC hK hP hA hS hl
  obtain ⟨hx, hb, hr, hml, hown, hts, hlocks, hin⟩ := hC
  have hown : s.vm.findClass RX12 = some m.cls := hown
  have hl : lv_has ls 8 [(0, .ref h), (1, .int (nI c0)), (2, .int (nI r0)), (3, .int (nI w0)), (4, .int (nI h0))] := hl
  refine lv_iconst (v := 0) hx hb dX12_muchAt_0 (by decide) ?_
  refine lv_istore (lv' := [(5, .int 0), (0, .ref h), (1, .int (nI c0)), (2, .int (nI r0)), (3, .int (nI w0)), (4, .int (nI h0))]) hx hb dX12_muchAt_1 hl (by decide) rfl (fun ls hl => ?_)
  refine lv_iconst (v := 0) hx hb dX12_muchAt_3 (by decide) ?_
  refine lv_istore (lv' := [(6, .int 0), (5, .int 0), (0, .ref h), (1, .int (nI c0)), (2, .int (nI r0)), (3, .int (nI w0)), (4, .int (nI h0))]) hx hb dX12_muchAt_4 hl (by decide) rfl (fun ls hl => ?_)
  have lp6 : ∀ (k6 : Nat) (j1 : Nat) (H : Heap) (locs : List Loc) (ls : Array Slot), j1 ≤ w0 → w0 < j1 + k6 → va_P D vwCl [(h, .inr (12, mG q i)), (q 74, .inl (cI, 72, .inl (fun _ => 0)))] H → va_S A s.heap H locs → lv_has ls 8 [(6, .int (nI j1)), (5, .int 0), (0, .ref h), (1, .int (nI c0)), (2, .int (nI r0)), (3, .int (nI w0)), (4, .int (nI h0))] → W p l e (rmX 0 0 0) s m ([.ref h, .int (nI c0), .int (nI r0), .int (nI w0), .int (nI h0)] : List Value).toArray below meth c H locs 0 0 (MQ below (va_Qi (fun r (_ : Unit) => (fun r => r = 0) r) (fun _ _ => True) A) ([.ref h, .int (nI c0), .int (nI r0), .int (nI w0), .int (nI h0)] : List Value).toArray s 0 0 A) (F0 m 6 ls []) := by
    intro k6
    induction k6 with
    | zero =>
      intro j1 H locs ls hj6 hk6  hP hS hl
      exact absurd hk6 (by omega)
    | succ k6 ih6 =>
      intro j1 H locs ls hj6 hk6  hP hS hl
      refine lv_iload hx hb dX12_muchAt_6 (lv_at hl 0 rfl) ?_
      refine lv_iload_n hx hb dX12_muchAt_8 rfl (lv_at hl 5 rfl) ?_
      refine lv_icmp_ge (tgt := 56) hx hb dX12_muchAt_9 (by decide) (fun c_1 => ?_) (fun c_1 => ?_)
      · refine lv_iload hx hb dX12_muchAt_56 (lv_at hl 1 rfl) ?_
        exact W.iret (v := 0) hx hb hr (fun t ht hW => ⟨⟨(0 : Int32), (), rfl, (lf_X12_muchAt_2 h q i c0 r0 w0 h0 hw hh j1 k6 hj6 hk6 c_1), trivial⟩, hS.F ht⟩) hS.2.2 dX12_muchAt_58 hlocks
      · have hlt6 : j1 < w0 := (lf_X12_muchAt_3 h q i c0 r0 w0 h0 hw hh j1 k6 hj6 hk6 c_1)
        refine lv_iconst (v := 0) hx hb dX12_muchAt_12 (by decide) ?_
        refine lv_istore (lv' := [(7, .int 0), (6, .int (nI j1)), (5, .int 0), (0, .ref h), (1, .int (nI c0)), (2, .int (nI r0)), (3, .int (nI w0)), (4, .int (nI h0))]) hx hb dX12_muchAt_13 hl (by decide) rfl (fun ls hl => ?_)
        have lp15 : ∀ (k15 : Nat) (j2 : Nat) (H : Heap) (locs : List Loc) (ls : Array Slot), j2 ≤ h0 → h0 < j2 + k15 → va_P D vwCl [(h, .inr (12, mG q i)), (q 74, .inl (cI, 72, .inl (fun _ => 0)))] H → va_S A s.heap H locs → lv_has ls 8 [(7, .int (nI j2)), (6, .int (nI j1)), (5, .int 0), (0, .ref h), (1, .int (nI c0)), (2, .int (nI r0)), (3, .int (nI w0)), (4, .int (nI h0))] → W p l e (rmX 0 0 0) s m ([.ref h, .int (nI c0), .int (nI r0), .int (nI w0), .int (nI h0)] : List Value).toArray below meth c H locs 0 0 (MQ below (va_Qi (fun r (_ : Unit) => (fun r => r = 0) r) (fun _ _ => True) A) ([.ref h, .int (nI c0), .int (nI r0), .int (nI w0), .int (nI h0)] : List Value).toArray s 0 0 A) (F0 m 15 ls []) := by
          intro k15
          induction k15 with
          | zero =>
            intro j2 H locs ls hj15 hk15  hP hS hl
            exact absurd hk15 (by omega)
          | succ k15 ih15 =>
            intro j2 H locs ls hj15 hk15  hP hS hl
            refine lv_iload hx hb dX12_muchAt_15 (lv_at hl 0 rfl) ?_
            refine lv_iload hx hb dX12_muchAt_17 (lv_at hl 7 rfl) ?_
            refine lv_icmp_ge (tgt := 50) hx hb dX12_muchAt_19 (by decide) (fun c_4 => ?_) (fun c_4 => ?_)
            · obtain ⟨x_5, ex_5⟩ : ∃ z : Int32, z = nI j1 + Int32.ofInt 1 := ⟨_, rfl⟩
              refine lv_iinc (v := x_5) (lv' := [(6, .int x_5), (7, .int (nI j2)), (5, .int 0), (0, .ref h), (1, .int (nI c0)), (2, .int (nI r0)), (3, .int (nI w0)), (4, .int (nI h0))]) hx hb dX12_muchAt_50 hl (k := 1) rfl (ex_5.symm) (by decide) rfl (fun ls hl => ?_)
              refine lv_goto (tgt := 6) hx hb dX12_muchAt_53 (by decide) ?_
              have ej_6 : x_5 = nI (j1 + 1) := ex_5.trans (nI_1 j1)
              rw [ej_6] at hl
              exact ih6 (j1 + 1)  H locs ls (by omega) (by omega)  (hP.sub [0, 1] rfl)  hS (lv_sub hl [0, 2, 3, 4, 5, 6, 7] rfl)
            · have hlt15 : j2 < h0 := (lf_X12_muchAt_7 h q i c0 r0 w0 h0 hw hh j1 k6 hj6 hk6 c_1 hlt6 j2 k15 hj15 hk15 c_4)
              refine lv_iload hx hb dX12_muchAt_22 (lv_at hl 2 rfl) ?_
              refine lv_aload_n hx hb dX12_muchAt_24 rfl (lv_at hl 3 rfl) ?_
              refine va_get (D := D) (ci := 12) (v := .ref (q 74)) (C := RX12) (T := TX12) (N := 81) hx hb hts inT_X12 hown hK.1 hP 0 rfl rfl 74 (by decide) (hts _ k_1427) (fun _ h9 => h9) rfl dX12_muchAt_25 ?_
              refine lv_bipush (v := 12) hx hb dX12_muchAt_28 (by decide) ?_
              refine lv_iload_n hx hb dX12_muchAt_30 rfl (lv_at hl 5 rfl) ?_
              refine lv_iload hx hb dX12_muchAt_31 (lv_at hl 0 rfl) ?_
              refine lv_iadd hx hb dX12_muchAt_33 ?_
              refine lv_topi (fun x_8 ex_8 => ?_)
              refine lv_imul hx hb dX12_muchAt_34 ?_
              refine lv_topi (fun x_9 ex_9 => ?_)
              refine lv_iload_n hx hb dX12_muchAt_35 rfl (lv_at hl 4 rfl) ?_
              refine lv_iadd hx hb dX12_muchAt_36 ?_
              refine lv_topi (fun x_10 ex_10 => ?_)
              refine lv_iload hx hb dX12_muchAt_37 (lv_at hl 1 rfl) ?_
              refine lv_iadd hx hb dX12_muchAt_39 ?_
              refine lv_topi (fun x_11 ex_11 => ?_)
              refine l0_i hx hb hK hP 1 rfl (lf_X12_muchAt_12 h q i c0 r0 w0 h0 hw hh j1 k6 hj6 hk6 c_1 hlt6 j2 k15 hj15 hk15 c_4 hlt15 x_8 ex_8 x_9 ex_9 x_10 ex_10 x_11 ex_11) dX12_muchAt_40 ?_
              refine lv_iadd hx hb dX12_muchAt_41 ?_
              refine lv_topv (y := 0) (by decide) ?_
              refine lv_istore (lv' := [(5, .int 0), (7, .int (nI j2)), (6, .int (nI j1)), (0, .ref h), (1, .int (nI c0)), (2, .int (nI r0)), (3, .int (nI w0)), (4, .int (nI h0))]) hx hb dX12_muchAt_42 hl (by decide) rfl (fun ls hl => ?_)
              obtain ⟨x_13, ex_13⟩ : ∃ z : Int32, z = nI j2 + Int32.ofInt 1 := ⟨_, rfl⟩
              refine lv_iinc (v := x_13) (lv' := [(7, .int x_13), (5, .int 0), (6, .int (nI j1)), (0, .ref h), (1, .int (nI c0)), (2, .int (nI r0)), (3, .int (nI w0)), (4, .int (nI h0))]) hx hb dX12_muchAt_44 hl (k := 1) rfl (ex_13.symm) (by decide) rfl (fun ls hl => ?_)
              refine lv_goto (tgt := 15) hx hb dX12_muchAt_47 (by decide) ?_
              have ej_14 : x_13 = nI (j2 + 1) := ex_13.trans (nI_1 j2)
              rw [ej_14] at hl
              exact ih15 (j2 + 1)  H locs ls (by omega) (by omega)  (hP.sub [0, 1] rfl)  hS (lv_sub hl [0, 2, 1, 3, 4, 5, 6, 7] rfl)
        exact lp15 (h0 + 1) 0  H locs ls (by omega) (by omega)  (hP.sub [0, 1] rfl)  hS (lv_sub hl [0, 1, 2, 3, 4, 5, 6, 7] rfl)
  exact lp6 (w0 + 1) 0  H locs ls (by omega) (by omega)  (hP.sub [0, 1] rfl)  hS (lv_sub hl [0, 1, 2, 3, 4, 5, 6] rfl)

theorem lf_X12_body_3 (h : Nat) (q : Nat → Nat) (i : Nat → Int32) (n1 : Int32) (n2 : Int32) (n3 : Int32) (c_2 : ¬ ((1 : Int32) ≤ n1 ∧ n1 ≤ 12)) : ((-1) : Int32) = sp_body n1 n2 n3 := by
  first | (unfold sp_body; rw [if_neg (by grind)]; done)
theorem lf_X12_body_6 (h : Nat) (q : Nat → Nat) (i : Nat → Int32) (n1 : Int32) (n2 : Int32) (n3 : Int32) (c_2 : (1 : Int32) ≤ n1 ∧ n1 ≤ 12) (c_5 : ¬ ((1 : Int32) ≤ n2 ∧ n2 ≤ 6)) : ((-1) : Int32) = sp_body n1 n2 n3 := by
  first | (unfold sp_body; rw [if_neg (by grind)]; done)
theorem lf_X12_body_11 (h : Nat) (q : Nat → Nat) (i : Nat → Int32) (n1 : Int32) (n2 : Int32) (n3 : Int32) (c_2 : (1 : Int32) ≤ n1 ∧ n1 ≤ 12) (c_5 : (1 : Int32) ≤ n2 ∧ n2 ≤ 6) (c_8 : (0 : Int32) ≤ n3 ∧ n3 ≤ 4) (w0 : Nat) (w0a : 1 ≤ w0) (w0b : w0 ≤ 12) (w0e : n1 = nI w0) (h0 : Nat) (h0a : 1 ≤ h0) (h0b : h0 ≤ 6) (h0e : n2 = nI h0) (j1 : Nat) (bva : Int32) (cva : Int32) (rva : Int32) (kva : Int32) (k53 : Nat) (hj53 : j1 ≤ (7 - h0)) (hk53 : (7 - h0) < j1 + (k53 + 1)) (iv53 : cva = 0 ∧ rva = 0 ∧ kva = nI (j1 * (13 - w0)) ∧ (j1 * (13 - w0) = 0 → bva = -1) ∧ (0 < j1 * (13 - w0) → bva = 0)) (x_9 : Int32) (ex_9 : x_9 = nI j1 + nI h0) (c_10 : 6 < x_9) : (7 - h0) ≤ j1 := by
  subst_vars
  have e : nI 6 < nI (j1 + h0) := by rw [← nI_add]; assumption
  have e2 := (nI_ltI (by decide) (by omega)).mp e
  omega
theorem lf_X12_body_21 (h : Nat) (q : Nat → Nat) (i : Nat → Int32) (n1 : Int32) (n2 : Int32) (n3 : Int32) (c_2 : (1 : Int32) ≤ n1 ∧ n1 ≤ 12) (c_5 : (1 : Int32) ≤ n2 ∧ n2 ≤ 6) (c_8 : (0 : Int32) ≤ n3 ∧ n3 ≤ 4) (w0 : Nat) (w0a : 1 ≤ w0) (w0b : w0 ≤ 12) (w0e : n1 = nI w0) (h0 : Nat) (h0a : 1 ≤ h0) (h0b : h0 ≤ 6) (h0e : n2 = nI h0) (j1 : Nat) (bva : Int32) (cva : Int32) (rva : Int32) (kva : Int32) (k53 : Nat) (hj53 : j1 ≤ (7 - h0)) (hk53 : (7 - h0) < j1 + (k53 + 1)) (iv53 : cva = 0 ∧ rva = 0 ∧ kva = nI (j1 * (13 - w0)) ∧ (j1 * (13 - w0) = 0 → bva = -1) ∧ (0 < j1 * (13 - w0) → bva = 0)) (x_9 : Int32) (ex_9 : x_9 = nI j1 + nI h0) (c_10 : 6 < x_9) (hge53 : (7 - h0) ≤ j1) (c_12 : ¬ n3 = 0) (c_13 : ¬ n3 = 1) (c_14 : ¬ n3 = 2) (c_15 : ¬ n3 = 3) (x_16 : Int32) (ex_16 : x_16 = 12 - nI w0) (x_17 : Int32) (ex_17 : x_17 = x_16 + 1) (x_18 : Int32) (ex_18 : x_18 = 6 - nI h0) (x_19 : Int32) (ex_19 : x_19 = x_18 + 1) (x_20 : Int32) (ex_20 : x_20 = x_17 * x_19) : (x_20 : Int32) = sp_body n1 n2 n3 := by
  obtain ⟨i1, i2, i3, i5, i6⟩ := iv53
  have e : j1 = 7 - h0 := by omega
  have e6 := i6 (by rw [e]; exact Nat.mul_pos (by omega) (by omega))
  rw [e] at i3
  subst_vars
  unfold sp_body
  rw [if_pos ⟨by assumption, by assumption, by assumption⟩]
  first
    | (rw [if_pos (by grind)]; done)
    | (rw [if_neg (by grind)]; exact T_eq (by assumption) (by assumption))
    | (rw [if_neg (by grind)]; exact (T_eq2 (by assumption) (by assumption)).symm)
theorem lf_X12_body_22 (h : Nat) (q : Nat → Nat) (i : Nat → Int32) (n1 : Int32) (n2 : Int32) (n3 : Int32) (c_2 : (1 : Int32) ≤ n1 ∧ n1 ≤ 12) (c_5 : (1 : Int32) ≤ n2 ∧ n2 ≤ 6) (c_8 : (0 : Int32) ≤ n3 ∧ n3 ≤ 4) (w0 : Nat) (w0a : 1 ≤ w0) (w0b : w0 ≤ 12) (w0e : n1 = nI w0) (h0 : Nat) (h0a : 1 ≤ h0) (h0b : h0 ≤ 6) (h0e : n2 = nI h0) (j1 : Nat) (bva : Int32) (cva : Int32) (rva : Int32) (kva : Int32) (k53 : Nat) (hj53 : j1 ≤ (7 - h0)) (hk53 : (7 - h0) < j1 + (k53 + 1)) (iv53 : cva = 0 ∧ rva = 0 ∧ kva = nI (j1 * (13 - w0)) ∧ (j1 * (13 - w0) = 0 → bva = -1) ∧ (0 < j1 * (13 - w0) → bva = 0)) (x_9 : Int32) (ex_9 : x_9 = nI j1 + nI h0) (c_10 : 6 < x_9) (hge53 : (7 - h0) ≤ j1) (c_12 : ¬ n3 = 0) (c_13 : ¬ n3 = 1) (c_14 : ¬ n3 = 2) (c_15 : n3 = 3) : (kva : Int32) = sp_body n1 n2 n3 := by
  obtain ⟨i1, i2, i3, i5, i6⟩ := iv53
  have e : j1 = 7 - h0 := by omega
  have e6 := i6 (by rw [e]; exact Nat.mul_pos (by omega) (by omega))
  rw [e] at i3
  subst_vars
  unfold sp_body
  rw [if_pos ⟨by assumption, by assumption, by assumption⟩]
  first
    | (rw [if_pos (by grind)]; done)
    | (rw [if_neg (by grind)]; exact T_eq (by assumption) (by assumption))
    | (rw [if_neg (by grind)]; exact (T_eq2 (by assumption) (by assumption)).symm)
theorem lf_X12_body_23 (h : Nat) (q : Nat → Nat) (i : Nat → Int32) (n1 : Int32) (n2 : Int32) (n3 : Int32) (c_2 : (1 : Int32) ≤ n1 ∧ n1 ≤ 12) (c_5 : (1 : Int32) ≤ n2 ∧ n2 ≤ 6) (c_8 : (0 : Int32) ≤ n3 ∧ n3 ≤ 4) (w0 : Nat) (w0a : 1 ≤ w0) (w0b : w0 ≤ 12) (w0e : n1 = nI w0) (h0 : Nat) (h0a : 1 ≤ h0) (h0b : h0 ≤ 6) (h0e : n2 = nI h0) (j1 : Nat) (bva : Int32) (cva : Int32) (rva : Int32) (kva : Int32) (k53 : Nat) (hj53 : j1 ≤ (7 - h0)) (hk53 : (7 - h0) < j1 + (k53 + 1)) (iv53 : cva = 0 ∧ rva = 0 ∧ kva = nI (j1 * (13 - w0)) ∧ (j1 * (13 - w0) = 0 → bva = -1) ∧ (0 < j1 * (13 - w0) → bva = 0)) (x_9 : Int32) (ex_9 : x_9 = nI j1 + nI h0) (c_10 : 6 < x_9) (hge53 : (7 - h0) ≤ j1) (c_12 : ¬ n3 = 0) (c_13 : ¬ n3 = 1) (c_14 : n3 = 2) : (bva : Int32) = sp_body n1 n2 n3 := by
  obtain ⟨i1, i2, i3, i5, i6⟩ := iv53
  have e : j1 = 7 - h0 := by omega
  have e6 := i6 (by rw [e]; exact Nat.mul_pos (by omega) (by omega))
  rw [e] at i3
  subst_vars
  unfold sp_body
  rw [if_pos ⟨by assumption, by assumption, by assumption⟩]
  first
    | (rw [if_pos (by grind)]; done)
    | (rw [if_neg (by grind)]; exact T_eq (by assumption) (by assumption))
    | (rw [if_neg (by grind)]; exact (T_eq2 (by assumption) (by assumption)).symm)
theorem lf_X12_body_24 (h : Nat) (q : Nat → Nat) (i : Nat → Int32) (n1 : Int32) (n2 : Int32) (n3 : Int32) (c_2 : (1 : Int32) ≤ n1 ∧ n1 ≤ 12) (c_5 : (1 : Int32) ≤ n2 ∧ n2 ≤ 6) (c_8 : (0 : Int32) ≤ n3 ∧ n3 ≤ 4) (w0 : Nat) (w0a : 1 ≤ w0) (w0b : w0 ≤ 12) (w0e : n1 = nI w0) (h0 : Nat) (h0a : 1 ≤ h0) (h0b : h0 ≤ 6) (h0e : n2 = nI h0) (j1 : Nat) (bva : Int32) (cva : Int32) (rva : Int32) (kva : Int32) (k53 : Nat) (hj53 : j1 ≤ (7 - h0)) (hk53 : (7 - h0) < j1 + (k53 + 1)) (iv53 : cva = 0 ∧ rva = 0 ∧ kva = nI (j1 * (13 - w0)) ∧ (j1 * (13 - w0) = 0 → bva = -1) ∧ (0 < j1 * (13 - w0) → bva = 0)) (x_9 : Int32) (ex_9 : x_9 = nI j1 + nI h0) (c_10 : 6 < x_9) (hge53 : (7 - h0) ≤ j1) (c_12 : ¬ n3 = 0) (c_13 : n3 = 1) : (rva : Int32) = sp_body n1 n2 n3 := by
  obtain ⟨i1, i2, i3, i5, i6⟩ := iv53
  have e : j1 = 7 - h0 := by omega
  have e6 := i6 (by rw [e]; exact Nat.mul_pos (by omega) (by omega))
  rw [e] at i3
  subst_vars
  unfold sp_body
  rw [if_pos ⟨by assumption, by assumption, by assumption⟩]
  first
    | (rw [if_pos (by grind)]; done)
    | (rw [if_neg (by grind)]; exact T_eq (by assumption) (by assumption))
    | (rw [if_neg (by grind)]; exact (T_eq2 (by assumption) (by assumption)).symm)
theorem lf_X12_body_25 (h : Nat) (q : Nat → Nat) (i : Nat → Int32) (n1 : Int32) (n2 : Int32) (n3 : Int32) (c_2 : (1 : Int32) ≤ n1 ∧ n1 ≤ 12) (c_5 : (1 : Int32) ≤ n2 ∧ n2 ≤ 6) (c_8 : (0 : Int32) ≤ n3 ∧ n3 ≤ 4) (w0 : Nat) (w0a : 1 ≤ w0) (w0b : w0 ≤ 12) (w0e : n1 = nI w0) (h0 : Nat) (h0a : 1 ≤ h0) (h0b : h0 ≤ 6) (h0e : n2 = nI h0) (j1 : Nat) (bva : Int32) (cva : Int32) (rva : Int32) (kva : Int32) (k53 : Nat) (hj53 : j1 ≤ (7 - h0)) (hk53 : (7 - h0) < j1 + (k53 + 1)) (iv53 : cva = 0 ∧ rva = 0 ∧ kva = nI (j1 * (13 - w0)) ∧ (j1 * (13 - w0) = 0 → bva = -1) ∧ (0 < j1 * (13 - w0) → bva = 0)) (x_9 : Int32) (ex_9 : x_9 = nI j1 + nI h0) (c_10 : 6 < x_9) (hge53 : (7 - h0) ≤ j1) (c_12 : n3 = 0) : (cva : Int32) = sp_body n1 n2 n3 := by
  obtain ⟨i1, i2, i3, i5, i6⟩ := iv53
  have e : j1 = 7 - h0 := by omega
  have e6 := i6 (by rw [e]; exact Nat.mul_pos (by omega) (by omega))
  rw [e] at i3
  subst_vars
  unfold sp_body
  rw [if_pos ⟨by assumption, by assumption, by assumption⟩]
  first
    | (rw [if_pos (by grind)]; done)
    | (rw [if_neg (by grind)]; exact T_eq (by assumption) (by assumption))
    | (rw [if_neg (by grind)]; exact (T_eq2 (by assumption) (by assumption)).symm)
theorem lf_X12_body_26 (h : Nat) (q : Nat → Nat) (i : Nat → Int32) (n1 : Int32) (n2 : Int32) (n3 : Int32) (c_2 : (1 : Int32) ≤ n1 ∧ n1 ≤ 12) (c_5 : (1 : Int32) ≤ n2 ∧ n2 ≤ 6) (c_8 : (0 : Int32) ≤ n3 ∧ n3 ≤ 4) (w0 : Nat) (w0a : 1 ≤ w0) (w0b : w0 ≤ 12) (w0e : n1 = nI w0) (h0 : Nat) (h0a : 1 ≤ h0) (h0b : h0 ≤ 6) (h0e : n2 = nI h0) (j1 : Nat) (bva : Int32) (cva : Int32) (rva : Int32) (kva : Int32) (k53 : Nat) (hj53 : j1 ≤ (7 - h0)) (hk53 : (7 - h0) < j1 + (k53 + 1)) (iv53 : cva = 0 ∧ rva = 0 ∧ kva = nI (j1 * (13 - w0)) ∧ (j1 * (13 - w0) = 0 → bva = -1) ∧ (0 < j1 * (13 - w0) → bva = 0)) (x_9 : Int32) (ex_9 : x_9 = nI j1 + nI h0) (c_10 : ¬ 6 < x_9) : j1 < (7 - h0) := by
  subst_vars
  have e : ¬ nI 6 < nI (j1 + h0) := by rw [← nI_add]; assumption
  have e2 : ¬ 6 < j1 + h0 := fun q => e ((nI_ltI (by decide) (by omega)).mpr q)
  omega
theorem lf_X12_body_29 (h : Nat) (q : Nat → Nat) (i : Nat → Int32) (n1 : Int32) (n2 : Int32) (n3 : Int32) (c_2 : (1 : Int32) ≤ n1 ∧ n1 ≤ 12) (c_5 : (1 : Int32) ≤ n2 ∧ n2 ≤ 6) (c_8 : (0 : Int32) ≤ n3 ∧ n3 ≤ 4) (w0 : Nat) (w0a : 1 ≤ w0) (w0b : w0 ≤ 12) (w0e : n1 = nI w0) (h0 : Nat) (h0a : 1 ≤ h0) (h0b : h0 ≤ 6) (h0e : n2 = nI h0) (j1 : Nat) (bva : Int32) (cva : Int32) (rva : Int32) (kva : Int32) (k53 : Nat) (hj53 : j1 ≤ (7 - h0)) (hk53 : (7 - h0) < j1 + (k53 + 1)) (iv53 : cva = 0 ∧ rva = 0 ∧ kva = nI (j1 * (13 - w0)) ∧ (j1 * (13 - w0) = 0 → bva = -1) ∧ (0 < j1 * (13 - w0) → bva = 0)) (x_9 : Int32) (ex_9 : x_9 = nI j1 + nI h0) (c_10 : ¬ 6 < x_9) (hlt53 : j1 < (7 - h0)) (j2 : Nat) (bvb : Int32) (cvb : Int32) (rvb : Int32) (kvb : Int32) (k65 : Nat) (hj65 : j2 ≤ (13 - w0)) (hk65 : (13 - w0) < j2 + (k65 + 1)) (iv65 : cvb = 0 ∧ rvb = 0 ∧ kvb = nI (j1 * (13 - w0) + j2) ∧ (j1 * (13 - w0) + j2 = 0 → bvb = -1) ∧ (0 < j1 * (13 - w0) + j2 → bvb = 0)) (x_27 : Int32) (ex_27 : x_27 = nI j2 + nI w0) (c_28 : 12 < x_27) : (13 - w0) ≤ j2 := by
  subst_vars
  have e : nI 12 < nI (j2 + w0) := by rw [← nI_add]; assumption
  have e2 := (nI_ltI (by decide) (by omega)).mp e
  omega
theorem lf_X12_body_32 (h : Nat) (q : Nat → Nat) (i : Nat → Int32) (n1 : Int32) (n2 : Int32) (n3 : Int32) (c_2 : (1 : Int32) ≤ n1 ∧ n1 ≤ 12) (c_5 : (1 : Int32) ≤ n2 ∧ n2 ≤ 6) (c_8 : (0 : Int32) ≤ n3 ∧ n3 ≤ 4) (w0 : Nat) (w0a : 1 ≤ w0) (w0b : w0 ≤ 12) (w0e : n1 = nI w0) (h0 : Nat) (h0a : 1 ≤ h0) (h0b : h0 ≤ 6) (h0e : n2 = nI h0) (j1 : Nat) (bva : Int32) (cva : Int32) (rva : Int32) (kva : Int32) (k53 : Nat) (hj53 : j1 ≤ (7 - h0)) (hk53 : (7 - h0) < j1 + (k53 + 1)) (iv53 : cva = 0 ∧ rva = 0 ∧ kva = nI (j1 * (13 - w0)) ∧ (j1 * (13 - w0) = 0 → bva = -1) ∧ (0 < j1 * (13 - w0) → bva = 0)) (x_9 : Int32) (ex_9 : x_9 = nI j1 + nI h0) (c_10 : ¬ 6 < x_9) (hlt53 : j1 < (7 - h0)) (j2 : Nat) (bvb : Int32) (cvb : Int32) (rvb : Int32) (kvb : Int32) (k65 : Nat) (hj65 : j2 ≤ (13 - w0)) (hk65 : (13 - w0) < j2 + (k65 + 1)) (iv65 : cvb = 0 ∧ rvb = 0 ∧ kvb = nI (j1 * (13 - w0) + j2) ∧ (j1 * (13 - w0) + j2 = 0 → bvb = -1) ∧ (0 < j1 * (13 - w0) + j2 → bvb = 0)) (x_27 : Int32) (ex_27 : x_27 = nI j2 + nI w0) (c_28 : 12 < x_27) (hge65 : (13 - w0) ≤ j2) (x_30 : Int32) (ex_30 : x_30 = nI j1 + Int32.ofInt 1) (ej_31 : x_30 = nI (j1 + 1)) : cvb = 0 ∧ rvb = 0 ∧ kvb = nI ((j1 + 1) * (13 - w0)) ∧ ((j1 + 1) * (13 - w0) = 0 → bvb = -1) ∧ (0 < (j1 + 1) * (13 - w0) → bvb = 0) := by
  obtain ⟨i1, i2, i3, i5, i6⟩ := iv65
  have e : j2 = 13 - w0 := by omega
  subst e
  rw [Nat.succ_mul]
  exact ⟨i1, i2, i3, i5, i6⟩
theorem lf_X12_body_33 (h : Nat) (q : Nat → Nat) (i : Nat → Int32) (n1 : Int32) (n2 : Int32) (n3 : Int32) (c_2 : (1 : Int32) ≤ n1 ∧ n1 ≤ 12) (c_5 : (1 : Int32) ≤ n2 ∧ n2 ≤ 6) (c_8 : (0 : Int32) ≤ n3 ∧ n3 ≤ 4) (w0 : Nat) (w0a : 1 ≤ w0) (w0b : w0 ≤ 12) (w0e : n1 = nI w0) (h0 : Nat) (h0a : 1 ≤ h0) (h0b : h0 ≤ 6) (h0e : n2 = nI h0) (j1 : Nat) (bva : Int32) (cva : Int32) (rva : Int32) (kva : Int32) (k53 : Nat) (hj53 : j1 ≤ (7 - h0)) (hk53 : (7 - h0) < j1 + (k53 + 1)) (iv53 : cva = 0 ∧ rva = 0 ∧ kva = nI (j1 * (13 - w0)) ∧ (j1 * (13 - w0) = 0 → bva = -1) ∧ (0 < j1 * (13 - w0) → bva = 0)) (x_9 : Int32) (ex_9 : x_9 = nI j1 + nI h0) (c_10 : ¬ 6 < x_9) (hlt53 : j1 < (7 - h0)) (j2 : Nat) (bvb : Int32) (cvb : Int32) (rvb : Int32) (kvb : Int32) (k65 : Nat) (hj65 : j2 ≤ (13 - w0)) (hk65 : (13 - w0) < j2 + (k65 + 1)) (iv65 : cvb = 0 ∧ rvb = 0 ∧ kvb = nI (j1 * (13 - w0) + j2) ∧ (j1 * (13 - w0) + j2 = 0 → bvb = -1) ∧ (0 < j1 * (13 - w0) + j2 → bvb = 0)) (x_27 : Int32) (ex_27 : x_27 = nI j2 + nI w0) (c_28 : ¬ 12 < x_27) : j2 < (13 - w0) := by
  subst_vars
  have e : ¬ nI 12 < nI (j2 + w0) := by rw [← nI_add]; assumption
  have e2 : ¬ 12 < j2 + w0 := fun q => e ((nI_ltI (by decide) (by omega)).mpr q)
  omega
theorem lf_X12_body_34 (h : Nat) (q : Nat → Nat) (i : Nat → Int32) (n1 : Int32) (n2 : Int32) (n3 : Int32) (c_2 : (1 : Int32) ≤ n1 ∧ n1 ≤ 12) (c_5 : (1 : Int32) ≤ n2 ∧ n2 ≤ 6) (c_8 : (0 : Int32) ≤ n3 ∧ n3 ≤ 4) (w0 : Nat) (w0a : 1 ≤ w0) (w0b : w0 ≤ 12) (w0e : n1 = nI w0) (h0 : Nat) (h0a : 1 ≤ h0) (h0b : h0 ≤ 6) (h0e : n2 = nI h0) (j1 : Nat) (bva : Int32) (cva : Int32) (rva : Int32) (kva : Int32) (k53 : Nat) (hj53 : j1 ≤ (7 - h0)) (hk53 : (7 - h0) < j1 + (k53 + 1)) (iv53 : cva = 0 ∧ rva = 0 ∧ kva = nI (j1 * (13 - w0)) ∧ (j1 * (13 - w0) = 0 → bva = -1) ∧ (0 < j1 * (13 - w0) → bva = 0)) (x_9 : Int32) (ex_9 : x_9 = nI j1 + nI h0) (c_10 : ¬ 6 < x_9) (hlt53 : j1 < (7 - h0)) (j2 : Nat) (bvb : Int32) (cvb : Int32) (rvb : Int32) (kvb : Int32) (k65 : Nat) (hj65 : j2 ≤ (13 - w0)) (hk65 : (13 - w0) < j2 + (k65 + 1)) (iv65 : cvb = 0 ∧ rvb = 0 ∧ kvb = nI (j1 * (13 - w0) + j2) ∧ (j1 * (13 - w0) + j2 = 0 → bvb = -1) ∧ (0 < j1 * (13 - w0) + j2 → bvb = 0)) (x_27 : Int32) (ex_27 : x_27 = nI j2 + nI w0) (c_28 : ¬ 12 < x_27) (hlt65 : j2 < (13 - w0)) : j2 + w0 ≤ 12 := by
  omega
theorem lf_X12_body_35 (h : Nat) (q : Nat → Nat) (i : Nat → Int32) (n1 : Int32) (n2 : Int32) (n3 : Int32) (c_2 : (1 : Int32) ≤ n1 ∧ n1 ≤ 12) (c_5 : (1 : Int32) ≤ n2 ∧ n2 ≤ 6) (c_8 : (0 : Int32) ≤ n3 ∧ n3 ≤ 4) (w0 : Nat) (w0a : 1 ≤ w0) (w0b : w0 ≤ 12) (w0e : n1 = nI w0) (h0 : Nat) (h0a : 1 ≤ h0) (h0b : h0 ≤ 6) (h0e : n2 = nI h0) (j1 : Nat) (bva : Int32) (cva : Int32) (rva : Int32) (kva : Int32) (k53 : Nat) (hj53 : j1 ≤ (7 - h0)) (hk53 : (7 - h0) < j1 + (k53 + 1)) (iv53 : cva = 0 ∧ rva = 0 ∧ kva = nI (j1 * (13 - w0)) ∧ (j1 * (13 - w0) = 0 → bva = -1) ∧ (0 < j1 * (13 - w0) → bva = 0)) (x_9 : Int32) (ex_9 : x_9 = nI j1 + nI h0) (c_10 : ¬ 6 < x_9) (hlt53 : j1 < (7 - h0)) (j2 : Nat) (bvb : Int32) (cvb : Int32) (rvb : Int32) (kvb : Int32) (k65 : Nat) (hj65 : j2 ≤ (13 - w0)) (hk65 : (13 - w0) < j2 + (k65 + 1)) (iv65 : cvb = 0 ∧ rvb = 0 ∧ kvb = nI (j1 * (13 - w0) + j2) ∧ (j1 * (13 - w0) + j2 = 0 → bvb = -1) ∧ (0 < j1 * (13 - w0) + j2 → bvb = 0)) (x_27 : Int32) (ex_27 : x_27 = nI j2 + nI w0) (c_28 : ¬ 12 < x_27) (hlt65 : j2 < (13 - w0)) : j1 + h0 ≤ 6 := by
  omega
theorem lf_X12_body_39 (h : Nat) (q : Nat → Nat) (i : Nat → Int32) (n1 : Int32) (n2 : Int32) (n3 : Int32) (c_2 : (1 : Int32) ≤ n1 ∧ n1 ≤ 12) (c_5 : (1 : Int32) ≤ n2 ∧ n2 ≤ 6) (c_8 : (0 : Int32) ≤ n3 ∧ n3 ≤ 4) (w0 : Nat) (w0a : 1 ≤ w0) (w0b : w0 ≤ 12) (w0e : n1 = nI w0) (h0 : Nat) (h0a : 1 ≤ h0) (h0b : h0 ≤ 6) (h0e : n2 = nI h0) (j1 : Nat) (bva : Int32) (cva : Int32) (rva : Int32) (kva : Int32) (k53 : Nat) (hj53 : j1 ≤ (7 - h0)) (hk53 : (7 - h0) < j1 + (k53 + 1)) (iv53 : cva = 0 ∧ rva = 0 ∧ kva = nI (j1 * (13 - w0)) ∧ (j1 * (13 - w0) = 0 → bva = -1) ∧ (0 < j1 * (13 - w0) → bva = 0)) (x_9 : Int32) (ex_9 : x_9 = nI j1 + nI h0) (c_10 : ¬ 6 < x_9) (hlt53 : j1 < (7 - h0)) (j2 : Nat) (bvb : Int32) (cvb : Int32) (rvb : Int32) (kvb : Int32) (k65 : Nat) (hj65 : j2 ≤ (13 - w0)) (hk65 : (13 - w0) < j2 + (k65 + 1)) (iv65 : cvb = 0 ∧ rvb = 0 ∧ kvb = nI (j1 * (13 - w0) + j2) ∧ (j1 * (13 - w0) + j2 = 0 → bvb = -1) ∧ (0 < j1 * (13 - w0) + j2 → bvb = 0)) (x_27 : Int32) (ex_27 : x_27 = nI j2 + nI w0) (c_28 : ¬ 12 < x_27) (hlt65 : j2 < (13 - w0)) (c_37 : (0 : Int32) ≤ bvb) (c_38 : ¬ (0 : Int32) = bvb) : False := by
  obtain ⟨i1, i2, i3, i5, i6⟩ := iv65
  rcases Nat.eq_zero_or_pos (j1 * (13 - w0) + j2) with z | z
  · have e := i5 z
    subst e
    exact absurd ‹(0 : Int32) ≤ -1› (by decide)
  · exact absurd (i6 z).symm (by assumption)
theorem lf_X12_body_43 (h : Nat) (q : Nat → Nat) (i : Nat → Int32) (n1 : Int32) (n2 : Int32) (n3 : Int32) (c_2 : (1 : Int32) ≤ n1 ∧ n1 ≤ 12) (c_5 : (1 : Int32) ≤ n2 ∧ n2 ≤ 6) (c_8 : (0 : Int32) ≤ n3 ∧ n3 ≤ 4) (w0 : Nat) (w0a : 1 ≤ w0) (w0b : w0 ≤ 12) (w0e : n1 = nI w0) (h0 : Nat) (h0a : 1 ≤ h0) (h0b : h0 ≤ 6) (h0e : n2 = nI h0) (j1 : Nat) (bva : Int32) (cva : Int32) (rva : Int32) (kva : Int32) (k53 : Nat) (hj53 : j1 ≤ (7 - h0)) (hk53 : (7 - h0) < j1 + (k53 + 1)) (iv53 : cva = 0 ∧ rva = 0 ∧ kva = nI (j1 * (13 - w0)) ∧ (j1 * (13 - w0) = 0 → bva = -1) ∧ (0 < j1 * (13 - w0) → bva = 0)) (x_9 : Int32) (ex_9 : x_9 = nI j1 + nI h0) (c_10 : ¬ 6 < x_9) (hlt53 : j1 < (7 - h0)) (j2 : Nat) (bvb : Int32) (cvb : Int32) (rvb : Int32) (kvb : Int32) (k65 : Nat) (hj65 : j2 ≤ (13 - w0)) (hk65 : (13 - w0) < j2 + (k65 + 1)) (iv65 : cvb = 0 ∧ rvb = 0 ∧ kvb = nI (j1 * (13 - w0) + j2) ∧ (j1 * (13 - w0) + j2 = 0 → bvb = -1) ∧ (0 < j1 * (13 - w0) + j2 → bvb = 0)) (x_27 : Int32) (ex_27 : x_27 = nI j2 + nI w0) (c_28 : ¬ 12 < x_27) (hlt65 : j2 < (13 - w0)) (c_37 : (0 : Int32) ≤ bvb) (c_38 : (0 : Int32) = bvb) (x_40 : Int32) (ex_40 : x_40 = kvb + 1) (x_41 : Int32) (ex_41 : x_41 = nI j2 + Int32.ofInt 1) (ej_42 : x_41 = nI (j2 + 1)) : cvb = 0 ∧ rvb = 0 ∧ x_40 = nI (j1 * (13 - w0) + (j2 + 1)) ∧ (j1 * (13 - w0) + (j2 + 1) = 0 → bvb = -1) ∧ (0 < j1 * (13 - w0) + (j2 + 1) → bvb = 0) := by
  obtain ⟨i1, i2, i3, i5, i6⟩ := iv65
  rcases Nat.eq_zero_or_pos (j1 * (13 - w0) + j2) with z | z
  · have z2 : j2 = 0 := by omega
    have z1 : j1 * (13 - w0) = 0 := by omega
    have z0 : j1 = 0 := by
      rcases Nat.mul_eq_zero.mp z1 with q | q
      · exact q
      · omega
    have e := i5 z
    subst e
    have t0 : 0 * (13 - w0) + (0 + 1) = 1 := by omega
    first
      | (exact absurd ‹(0 : Int32) ≤ -1› (by decide))
      | (rw [z0, z2, t0]; exact ⟨rfl, rfl, rfl, fun q => absurd q (by decide), fun _ => rfl⟩)
  · have e := i6 z
    first
      | (refine ⟨i1, i2, ?_, fun q => absurd q (by omega), fun _ => e⟩; subst_vars; exact nI_1 _)
      | (exfalso; subst e; exact absurd (show (0 : Int32) ≤ 0 from by decide) (by assumption))
theorem lf_X12_body_46 (h : Nat) (q : Nat → Nat) (i : Nat → Int32) (n1 : Int32) (n2 : Int32) (n3 : Int32) (c_2 : (1 : Int32) ≤ n1 ∧ n1 ≤ 12) (c_5 : (1 : Int32) ≤ n2 ∧ n2 ≤ 6) (c_8 : (0 : Int32) ≤ n3 ∧ n3 ≤ 4) (w0 : Nat) (w0a : 1 ≤ w0) (w0b : w0 ≤ 12) (w0e : n1 = nI w0) (h0 : Nat) (h0a : 1 ≤ h0) (h0b : h0 ≤ 6) (h0e : n2 = nI h0) (j1 : Nat) (bva : Int32) (cva : Int32) (rva : Int32) (kva : Int32) (k53 : Nat) (hj53 : j1 ≤ (7 - h0)) (hk53 : (7 - h0) < j1 + (k53 + 1)) (iv53 : cva = 0 ∧ rva = 0 ∧ kva = nI (j1 * (13 - w0)) ∧ (j1 * (13 - w0) = 0 → bva = -1) ∧ (0 < j1 * (13 - w0) → bva = 0)) (x_9 : Int32) (ex_9 : x_9 = nI j1 + nI h0) (c_10 : ¬ 6 < x_9) (hlt53 : j1 < (7 - h0)) (j2 : Nat) (bvb : Int32) (cvb : Int32) (rvb : Int32) (kvb : Int32) (k65 : Nat) (hj65 : j2 ≤ (13 - w0)) (hk65 : (13 - w0) < j2 + (k65 + 1)) (iv65 : cvb = 0 ∧ rvb = 0 ∧ kvb = nI (j1 * (13 - w0) + j2) ∧ (j1 * (13 - w0) + j2 = 0 → bvb = -1) ∧ (0 < j1 * (13 - w0) + j2 → bvb = 0)) (x_27 : Int32) (ex_27 : x_27 = nI j2 + nI w0) (c_28 : ¬ 12 < x_27) (hlt65 : j2 < (13 - w0)) (c_37 : ¬ (0 : Int32) ≤ bvb) (x_44 : Int32) (ex_44 : x_44 = nI j2 + Int32.ofInt 1) (ej_45 : x_44 = nI (j2 + 1)) : (nI j2) = 0 ∧ (nI j1) = 0 ∧ (1 : Int32) = nI (j1 * (13 - w0) + (j2 + 1)) ∧ (j1 * (13 - w0) + (j2 + 1) = 0 → (0 : Int32) = -1) ∧ (0 < j1 * (13 - w0) + (j2 + 1) → (0 : Int32) = 0) := by
  obtain ⟨i1, i2, i3, i5, i6⟩ := iv65
  rcases Nat.eq_zero_or_pos (j1 * (13 - w0) + j2) with z | z
  · have z2 : j2 = 0 := by omega
    have z1 : j1 * (13 - w0) = 0 := by omega
    have z0 : j1 = 0 := by
      rcases Nat.mul_eq_zero.mp z1 with q | q
      · exact q
      · omega
    have e := i5 z
    subst e
    have t0 : 0 * (13 - w0) + (0 + 1) = 1 := by omega
    first
      | (exact absurd ‹(0 : Int32) ≤ -1› (by decide))
      | (rw [z0, z2, t0]; exact ⟨rfl, rfl, rfl, fun q => absurd q (by decide), fun _ => rfl⟩)
  · have e := i6 z
    first
      | (refine ⟨i1, i2, ?_, fun q => absurd q (by omega), fun _ => e⟩; subst_vars; exact nI_1 _)
      | (exfalso; subst e; exact absurd (show (0 : Int32) ≤ 0 from by decide) (by assumption))
theorem lf_X12_body_47 (h : Nat) (q : Nat → Nat) (i : Nat → Int32) (n1 : Int32) (n2 : Int32) (n3 : Int32) (c_2 : (1 : Int32) ≤ n1 ∧ n1 ≤ 12) (c_5 : (1 : Int32) ≤ n2 ∧ n2 ≤ 6) (c_8 : (0 : Int32) ≤ n3 ∧ n3 ≤ 4) (w0 : Nat) (w0a : 1 ≤ w0) (w0b : w0 ≤ 12) (w0e : n1 = nI w0) (h0 : Nat) (h0a : 1 ≤ h0) (h0b : h0 ≤ 6) (h0e : n2 = nI h0) (j1 : Nat) (bva : Int32) (cva : Int32) (rva : Int32) (kva : Int32) (k53 : Nat) (hj53 : j1 ≤ (7 - h0)) (hk53 : (7 - h0) < j1 + (k53 + 1)) (iv53 : cva = 0 ∧ rva = 0 ∧ kva = nI (j1 * (13 - w0)) ∧ (j1 * (13 - w0) = 0 → bva = -1) ∧ (0 < j1 * (13 - w0) → bva = 0)) (x_9 : Int32) (ex_9 : x_9 = nI j1 + nI h0) (c_10 : ¬ 6 < x_9) (hlt53 : j1 < (7 - h0)) : cva = 0 ∧ rva = 0 ∧ kva = nI (j1 * (13 - w0) + 0) ∧ (j1 * (13 - w0) + 0 = 0 → bva = -1) ∧ (0 < j1 * (13 - w0) + 0 → bva = 0) := by
  exact iv53
theorem lf_X12_body_48 (h : Nat) (q : Nat → Nat) (i : Nat → Int32) (n1 : Int32) (n2 : Int32) (n3 : Int32) (c_2 : (1 : Int32) ≤ n1 ∧ n1 ≤ 12) (c_5 : (1 : Int32) ≤ n2 ∧ n2 ≤ 6) (c_8 : (0 : Int32) ≤ n3 ∧ n3 ≤ 4) (w0 : Nat) (w0a : 1 ≤ w0) (w0b : w0 ≤ 12) (w0e : n1 = nI w0) (h0 : Nat) (h0a : 1 ≤ h0) (h0b : h0 ≤ 6) (h0e : n2 = nI h0) : (0 : Int32) = 0 ∧ (0 : Int32) = 0 ∧ (0 : Int32) = nI (0 * (13 - w0)) ∧ (0 * (13 - w0) = 0 → (((-1)) : Int32) = -1) ∧ (0 < 0 * (13 - w0) → (((-1)) : Int32) = 0) := by
  exact ⟨rfl, rfl, by rw [Nat.zero_mul]; rfl, fun _ => rfl, fun q => absurd q (by omega)⟩
theorem lf_X12_body_49 (h : Nat) (q : Nat → Nat) (i : Nat → Int32) (n1 : Int32) (n2 : Int32) (n3 : Int32) (c_2 : (1 : Int32) ≤ n1 ∧ n1 ≤ 12) (c_5 : (1 : Int32) ≤ n2 ∧ n2 ≤ 6) (c_8 : ¬ ((0 : Int32) ≤ n3 ∧ n3 ≤ 4)) : ((-1) : Int32) = sp_body n1 n2 n3 := by
  first | (unfold sp_body; rw [if_neg (by grind)]; done)
set_option maxHeartbeats 4000000 in
set_option maxRecDepth 100000 in
theorem c_X12_body (l : Launch) (D : va_G) (cI cB cZ cJ : ClassId) (tx : List (ClassId × FieldType)) (h : Nat) (q : Nat → Nat) (i : Nat → Int32) (n1 : Int32) (n2 : Int32) (n3 : Int32) : WrI l D cI cB cZ cJ tx yX12_body cX12_body 11 (some .int) 1 0 0 [.ref h, .int n1, .int n2, .int n3] [(h, .inr (12, mG q i)), (q 74, .inl (cI, 72, .inl (fun _ => 0)))] (fun (r : Int32) (_ : Unit) => r = sp_body n1 n2 n3) (fun _ => []) := by
  refine wri_of2 (by decide) (Nat.le_of_ble_eq_true rfl) ?_
  intro p e s m below meth c A ls H locs hC hK hP hD hA hS hl
  obtain ⟨hx, hb, hr, hml, hown, hts, hlocks, hin⟩ := hC
  have hown : s.vm.findClass RX12 = some m.cls := hown
  have hl : lv_has ls 11 [(0, .ref h), (1, .int n1), (2, .int n2), (3, .int n3)] := hl
  refine lv_iload_n hx hb dX12_body_0 rfl (lv_at hl 1 rfl) ?_
  refine lv_i2l (v := n1.toInt64) hx hb dX12_body_1 rfl ?_
  refine lv_lconst (v := 1) hx hb dX12_body_2 (by decide) ?_
  refine lv_ldc2 (v := 12) hx hb hown (hts _ k_2016) dX12_body_3 ?_
  refine eRi (va_runS (As := [.long n1.toInt64, .long 1, .long 12]) (rest := []) ⟨hx, hb, hml, hown, hts⟩ (c_X12_isIn l D cI cB cZ cJ tx n1.toInt64 1 12 H.size) (zS hts k_1602 v_X12_isIn ⟨Nat.le_of_ble_eq_true rfl, Nat.le_of_ble_eq_true rfl⟩) (px0 hK) rfl rfl hl.1 rfl (lv_room (Nat.le_of_ble_eq_true rfl)) dX12_body_6 ⟨Nat.le_of_ble_eq_true rfl, Nat.le_of_ble_eq_true rfl⟩) hP hS hA (fun r_1 H locs wr_1 hP hS => ?_)
  have wr_1 : r_1 = bi ((1 : Int32) ≤ n1 ∧ n1 ≤ 12) := isIn32 (lo := 1) (hi := 12) (by decide) (by decide) wr_1
  subst wr_1
  refine lv_bi_eq (tgt := 36) hx hb dX12_body_9 (by decide) (fun c_2 => ?_) (fun c_2 => ?_)
  · refine lv_iconst (v := (-1)) hx hb dX12_body_36 (by decide) ?_
    exact W.iret (v := (-1)) hx hb hr (fun t ht hW => ⟨⟨((-1) : Int32), (), rfl, (lf_X12_body_3 h q i n1 n2 n3 c_2), bx0⟩, hS.F ht⟩) hS.2.2 dX12_body_37 hlocks
  · refine lv_iload_n hx hb dX12_body_12 rfl (lv_at hl 2 rfl) ?_
    refine lv_i2l (v := n2.toInt64) hx hb dX12_body_13 rfl ?_
    refine lv_lconst (v := 1) hx hb dX12_body_14 (by decide) ?_
    refine lv_ldc2 (v := 6) hx hb hown (hts _ k_2017) dX12_body_15 ?_
    refine eRi (va_runS (As := [.long n2.toInt64, .long 1, .long 6]) (rest := []) ⟨hx, hb, hml, hown, hts⟩ (c_X12_isIn l D cI cB cZ cJ tx n2.toInt64 1 6 H.size) (zS hts k_1602 v_X12_isIn ⟨Nat.le_of_ble_eq_true rfl, Nat.le_of_ble_eq_true rfl⟩) (px0 hK) rfl rfl hl.1 rfl (lv_room (Nat.le_of_ble_eq_true rfl)) dX12_body_18 ⟨Nat.le_of_ble_eq_true rfl, Nat.le_of_ble_eq_true rfl⟩) hP hS hA (fun r_4 H locs wr_4 hP hS => ?_)
    have wr_4 : r_4 = bi ((1 : Int32) ≤ n2 ∧ n2 ≤ 6) := isIn32 (lo := 1) (hi := 6) (by decide) (by decide) wr_4
    subst wr_4
    refine lv_bi_eq (tgt := 36) hx hb dX12_body_21 (by decide) (fun c_5 => ?_) (fun c_5 => ?_)
    · refine lv_iconst (v := (-1)) hx hb dX12_body_36 (by decide) ?_
      exact W.iret (v := (-1)) hx hb hr (fun t ht hW => ⟨⟨((-1) : Int32), (), rfl, (lf_X12_body_6 h q i n1 n2 n3 c_2 c_5), bx0⟩, hS.F ht⟩) hS.2.2 dX12_body_37 hlocks
    · refine lv_iload_n hx hb dX12_body_24 rfl (lv_at hl 3 rfl) ?_
      refine lv_i2l (v := n3.toInt64) hx hb dX12_body_25 rfl ?_
      refine lv_lconst (v := 0) hx hb dX12_body_26 (by decide) ?_
      refine lv_ldc2 (v := 4) hx hb hown (hts _ k_1873) dX12_body_27 ?_
      refine eRi (va_runS (As := [.long n3.toInt64, .long 0, .long 4]) (rest := []) ⟨hx, hb, hml, hown, hts⟩ (c_X12_isIn l D cI cB cZ cJ tx n3.toInt64 0 4 H.size) (zS hts k_1602 v_X12_isIn ⟨Nat.le_of_ble_eq_true rfl, Nat.le_of_ble_eq_true rfl⟩) (px0 hK) rfl rfl hl.1 rfl (lv_room (Nat.le_of_ble_eq_true rfl)) dX12_body_30 ⟨Nat.le_of_ble_eq_true rfl, Nat.le_of_ble_eq_true rfl⟩) hP hS hA (fun r_7 H locs wr_7 hP hS => ?_)
      have wr_7 : r_7 = bi ((0 : Int32) ≤ n3 ∧ n3 ≤ 4) := isIn32 (lo := 0) (hi := 4) (by decide) (by decide) wr_7
      subst wr_7
      refine lv_bi_ne (tgt := 38) hx hb dX12_body_33 (by decide) (fun c_8 => ?_) (fun c_8 => ?_)
      · obtain ⟨w0, w0a, w0b, w0e⟩ := of_rng 1 12 rfl rfl c_2
        subst w0e
        obtain ⟨h0, h0a, h0b, h0e⟩ := of_rng 1 6 rfl rfl c_5
        subst h0e
        refine lv_iconst (v := (-1)) hx hb dX12_body_38 (by decide) ?_
        refine lv_istore (lv' := [(4, .int (-1)), (0, .ref h), (1, .int (nI w0)), (2, .int (nI h0)), (3, .int n3)]) hx hb dX12_body_39 hl (by decide) rfl (fun ls hl => ?_)
        refine lv_iconst (v := 0) hx hb dX12_body_41 (by decide) ?_
        refine lv_istore (lv' := [(5, .int 0), (4, .int (-1)), (0, .ref h), (1, .int (nI w0)), (2, .int (nI h0)), (3, .int n3)]) hx hb dX12_body_42 hl (by decide) rfl (fun ls hl => ?_)
        refine lv_iconst (v := 0) hx hb dX12_body_44 (by decide) ?_
        refine lv_istore (lv' := [(6, .int 0), (5, .int 0), (4, .int (-1)), (0, .ref h), (1, .int (nI w0)), (2, .int (nI h0)), (3, .int n3)]) hx hb dX12_body_45 hl (by decide) rfl (fun ls hl => ?_)
        refine lv_iconst (v := 0) hx hb dX12_body_47 (by decide) ?_
        refine lv_istore (lv' := [(7, .int 0), (6, .int 0), (5, .int 0), (4, .int (-1)), (0, .ref h), (1, .int (nI w0)), (2, .int (nI h0)), (3, .int n3)]) hx hb dX12_body_48 hl (by decide) rfl (fun ls hl => ?_)
        refine lv_iconst (v := 0) hx hb dX12_body_50 (by decide) ?_
        refine lv_istore (lv' := [(8, .int 0), (7, .int 0), (6, .int 0), (5, .int 0), (4, .int (-1)), (0, .ref h), (1, .int (nI w0)), (2, .int (nI h0)), (3, .int n3)]) hx hb dX12_body_51 hl (by decide) rfl (fun ls hl => ?_)
        have lp53 : ∀ (k53 : Nat) (j1 : Nat) (bva : Int32) (cva : Int32) (rva : Int32) (kva : Int32) (H : Heap) (locs : List Loc) (ls : Array Slot), j1 ≤ (7 - h0) → (7 - h0) < j1 + k53 → (cva = 0 ∧ rva = 0 ∧ kva = nI (j1 * (13 - w0)) ∧ (j1 * (13 - w0) = 0 → bva = -1) ∧ (0 < j1 * (13 - w0) → bva = 0)) → va_P D vwCl [(h, .inr (12, mG q i)), (q 74, .inl (cI, 72, .inl (fun _ => 0)))] H → va_D A [(h, .inr (12, mG q i)), (q 74, .inl (cI, 72, .inl (fun _ => 0)))] → va_S A s.heap H locs → lv_has ls 11 [(8, .int (nI j1)), (7, .int kva), (6, .int rva), (5, .int cva), (4, .int bva), (0, .ref h), (1, .int (nI w0)), (2, .int (nI h0)), (3, .int n3)] → W p l e (rmX 1 0 0) s m ([.ref h, .int (nI w0), .int (nI h0), .int n3] : List Value).toArray below meth c H locs 0 0 (MQ below (va_Qi (fun (r : Int32) (_ : Unit) => r = sp_body (nI w0) (nI h0) n3) (fun u => BX D A ((fun _ => []) u)) A) ([.ref h, .int (nI w0), .int (nI h0), .int n3] : List Value).toArray s 0 0 A) (F0 m 53 ls []) := by
          intro k53
          induction k53 with
          | zero =>
            intro j1 bva cva rva kva H locs ls hj53 hk53 iv53 hP hD hS hl
            exact absurd hk53 (by omega)
          | succ k53 ih53 =>
            intro j1 bva cva rva kva H locs ls hj53 hk53 iv53 hP hD hS hl
            refine lv_iload hx hb dX12_body_53 (lv_at hl 0 rfl) ?_
            refine lv_iload_n hx hb dX12_body_55 rfl (lv_at hl 7 rfl) ?_
            refine lv_iadd hx hb dX12_body_56 ?_
            refine lv_topi (fun x_9 ex_9 => ?_)
            refine lv_bipush (v := 6) hx hb dX12_body_57 (by decide) ?_
            refine lv_icmp_gt (tgt := 137) hx hb dX12_body_59 (by decide) (fun c_10 => ?_) (fun c_10 => ?_)
            · have hge53 : (7 - h0) ≤ j1 := (lf_X12_body_11 h q i (nI w0) (nI h0) n3 c_2 c_5 c_8 w0 w0a w0b rfl h0 h0a h0b rfl j1 bva cva rva kva k53 hj53 hk53 iv53 x_9 ex_9 c_10)
              refine lv_iload_n hx hb dX12_body_137 rfl (lv_at hl 8 rfl) ?_
              refine lv_if_ne (tgt := 146) hx hb dX12_body_138 (by decide) (fun c_12 => ?_) (fun c_12 => ?_)
              · refine lv_iload_n hx hb dX12_body_146 rfl (lv_at hl 8 rfl) ?_
                refine lv_iconst (v := 1) hx hb dX12_body_147 (by decide) ?_
                refine lv_icmp_ne (tgt := 156) hx hb dX12_body_148 (by decide) (fun c_13 => ?_) (fun c_13 => ?_)
                · refine lv_iload_n hx hb dX12_body_156 rfl (lv_at hl 8 rfl) ?_
                  refine lv_iconst (v := 2) hx hb dX12_body_157 (by decide) ?_
                  refine lv_icmp_ne (tgt := 166) hx hb dX12_body_158 (by decide) (fun c_14 => ?_) (fun c_14 => ?_)
                  · refine lv_iload_n hx hb dX12_body_166 rfl (lv_at hl 8 rfl) ?_
                    refine lv_iconst (v := 3) hx hb dX12_body_167 (by decide) ?_
                    refine lv_icmp_ne (tgt := 176) hx hb dX12_body_168 (by decide) (fun c_15 => ?_) (fun c_15 => ?_)
                    · refine lv_bipush (v := 12) hx hb dX12_body_176 (by decide) ?_
                      refine lv_iload_n hx hb dX12_body_178 rfl (lv_at hl 6 rfl) ?_
                      refine lv_isub hx hb dX12_body_179 ?_
                      refine lv_topi (fun x_16 ex_16 => ?_)
                      refine lv_iconst (v := 1) hx hb dX12_body_180 (by decide) ?_
                      refine lv_iadd hx hb dX12_body_181 ?_
                      refine lv_topi (fun x_17 ex_17 => ?_)
                      refine lv_bipush (v := 6) hx hb dX12_body_182 (by decide) ?_
                      refine lv_iload_n hx hb dX12_body_184 rfl (lv_at hl 7 rfl) ?_
                      refine lv_isub hx hb dX12_body_185 ?_
                      refine lv_topi (fun x_18 ex_18 => ?_)
                      refine lv_iconst (v := 1) hx hb dX12_body_186 (by decide) ?_
                      refine lv_iadd hx hb dX12_body_187 ?_
                      refine lv_topi (fun x_19 ex_19 => ?_)
                      refine lv_imul hx hb dX12_body_188 ?_
                      refine lv_topi (fun x_20 ex_20 => ?_)
                      exact W.iret (v := x_20) hx hb hr (fun t ht hW => ⟨⟨(x_20 : Int32), (), rfl, (lf_X12_body_21 h q i (nI w0) (nI h0) n3 c_2 c_5 c_8 w0 w0a w0b rfl h0 h0a h0b rfl j1 bva cva rva kva k53 hj53 hk53 iv53 x_9 ex_9 c_10 hge53 c_12 c_13 c_14 c_15 x_16 ex_16 x_17 ex_17 x_18 ex_18 x_19 ex_19 x_20 ex_20), bx0⟩, hS.F ht⟩) hS.2.2 dX12_body_189 hlocks
                    · refine lv_iload hx hb dX12_body_171 (lv_at hl 1 rfl) ?_
                      refine lv_goto (tgt := 189) hx hb dX12_body_173 (by decide) ?_
                      exact W.iret (v := kva) hx hb hr (fun t ht hW => ⟨⟨(kva : Int32), (), rfl, (lf_X12_body_22 h q i (nI w0) (nI h0) n3 c_2 c_5 c_8 w0 w0a w0b rfl h0 h0a h0b rfl j1 bva cva rva kva k53 hj53 hk53 iv53 x_9 ex_9 c_10 hge53 c_12 c_13 c_14 c_15), bx0⟩, hS.F ht⟩) hS.2.2 dX12_body_189 hlocks
                  · refine lv_iload hx hb dX12_body_161 (lv_at hl 4 rfl) ?_
                    refine lv_goto (tgt := 189) hx hb dX12_body_163 (by decide) ?_
                    exact W.iret (v := bva) hx hb hr (fun t ht hW => ⟨⟨(bva : Int32), (), rfl, (lf_X12_body_23 h q i (nI w0) (nI h0) n3 c_2 c_5 c_8 w0 w0a w0b rfl h0 h0a h0b rfl j1 bva cva rva kva k53 hj53 hk53 iv53 x_9 ex_9 c_10 hge53 c_12 c_13 c_14), bx0⟩, hS.F ht⟩) hS.2.2 dX12_body_189 hlocks
                · refine lv_iload hx hb dX12_body_151 (lv_at hl 2 rfl) ?_
                  refine lv_goto (tgt := 189) hx hb dX12_body_153 (by decide) ?_
                  exact W.iret (v := rva) hx hb hr (fun t ht hW => ⟨⟨(rva : Int32), (), rfl, (lf_X12_body_24 h q i (nI w0) (nI h0) n3 c_2 c_5 c_8 w0 w0a w0b rfl h0 h0a h0b rfl j1 bva cva rva kva k53 hj53 hk53 iv53 x_9 ex_9 c_10 hge53 c_12 c_13), bx0⟩, hS.F ht⟩) hS.2.2 dX12_body_189 hlocks
              · refine lv_iload hx hb dX12_body_141 (lv_at hl 3 rfl) ?_
                refine lv_goto (tgt := 189) hx hb dX12_body_143 (by decide) ?_
                exact W.iret (v := cva) hx hb hr (fun t ht hW => ⟨⟨(cva : Int32), (), rfl, (lf_X12_body_25 h q i (nI w0) (nI h0) n3 c_2 c_5 c_8 w0 w0a w0b rfl h0 h0a h0b rfl j1 bva cva rva kva k53 hj53 hk53 iv53 x_9 ex_9 c_10 hge53 c_12), bx0⟩, hS.F ht⟩) hS.2.2 dX12_body_189 hlocks
            · have hlt53 : j1 < (7 - h0) := (lf_X12_body_26 h q i (nI w0) (nI h0) n3 c_2 c_5 c_8 w0 w0a w0b rfl h0 h0a h0b rfl j1 bva cva rva kva k53 hj53 hk53 iv53 x_9 ex_9 c_10)
              refine lv_iconst (v := 0) hx hb dX12_body_62 (by decide) ?_
              refine lv_istore (lv' := [(9, .int 0), (8, .int (nI j1)), (7, .int kva), (6, .int rva), (5, .int cva), (4, .int bva), (0, .ref h), (1, .int (nI w0)), (2, .int (nI h0)), (3, .int n3)]) hx hb dX12_body_63 hl (by decide) rfl (fun ls hl => ?_)
              have lp65 : ∀ (k65 : Nat) (j2 : Nat) (bvb : Int32) (cvb : Int32) (rvb : Int32) (kvb : Int32) (H : Heap) (locs : List Loc) (ls : Array Slot), j2 ≤ (13 - w0) → (13 - w0) < j2 + k65 → (cvb = 0 ∧ rvb = 0 ∧ kvb = nI (j1 * (13 - w0) + j2) ∧ (j1 * (13 - w0) + j2 = 0 → bvb = -1) ∧ (0 < j1 * (13 - w0) + j2 → bvb = 0)) → va_P D vwCl [(h, .inr (12, mG q i)), (q 74, .inl (cI, 72, .inl (fun _ => 0)))] H → va_D A [(h, .inr (12, mG q i)), (q 74, .inl (cI, 72, .inl (fun _ => 0)))] → va_S A s.heap H locs → lv_has ls 11 [(9, .int (nI j2)), (8, .int (nI j1)), (7, .int kvb), (6, .int rvb), (5, .int cvb), (4, .int bvb), (0, .ref h), (1, .int (nI w0)), (2, .int (nI h0)), (3, .int n3)] → W p l e (rmX 1 0 0) s m ([.ref h, .int (nI w0), .int (nI h0), .int n3] : List Value).toArray below meth c H locs 0 0 (MQ below (va_Qi (fun (r : Int32) (_ : Unit) => r = sp_body (nI w0) (nI h0) n3) (fun u => BX D A ((fun _ => []) u)) A) ([.ref h, .int (nI w0), .int (nI h0), .int n3] : List Value).toArray s 0 0 A) (F0 m 65 ls []) := by
                intro k65
                induction k65 with
                | zero =>
                  intro j2 bvb cvb rvb kvb H locs ls hj65 hk65 iv65 hP hD hS hl
                  exact absurd hk65 (by omega)
                | succ k65 ih65 =>
                  intro j2 bvb cvb rvb kvb H locs ls hj65 hk65 iv65 hP hD hS hl
                  refine lv_iload hx hb dX12_body_65 (lv_at hl 0 rfl) ?_
                  refine lv_iload_n hx hb dX12_body_67 rfl (lv_at hl 7 rfl) ?_
                  refine lv_iadd hx hb dX12_body_68 ?_
                  refine lv_topi (fun x_27 ex_27 => ?_)
                  refine lv_bipush (v := 12) hx hb dX12_body_69 (by decide) ?_
                  refine lv_icmp_gt (tgt := 131) hx hb dX12_body_71 (by decide) (fun c_28 => ?_) (fun c_28 => ?_)
                  · have hge65 : (13 - w0) ≤ j2 := (lf_X12_body_29 h q i (nI w0) (nI h0) n3 c_2 c_5 c_8 w0 w0a w0b rfl h0 h0a h0b rfl j1 bva cva rva kva k53 hj53 hk53 iv53 x_9 ex_9 c_10 hlt53 j2 bvb cvb rvb kvb k65 hj65 hk65 iv65 x_27 ex_27 c_28)
                    obtain ⟨x_30, ex_30⟩ : ∃ z : Int32, z = nI j1 + Int32.ofInt 1 := ⟨_, rfl⟩
                    refine lv_iinc (v := x_30) (lv' := [(8, .int x_30), (9, .int (nI j2)), (7, .int kvb), (6, .int rvb), (5, .int cvb), (4, .int bvb), (0, .ref h), (1, .int (nI w0)), (2, .int (nI h0)), (3, .int n3)]) hx hb dX12_body_131 hl (k := 1) rfl (ex_30.symm) (by decide) rfl (fun ls hl => ?_)
                    refine lv_goto (tgt := 53) hx hb dX12_body_134 (by decide) ?_
                    have ej_31 : x_30 = nI (j1 + 1) := ex_30.trans (nI_1 j1)
                    rw [ej_31] at hl
                    exact ih53 (j1 + 1) bvb cvb rvb kvb H locs ls (by omega) (by omega) (lf_X12_body_32 h q i (nI w0) (nI h0) n3 c_2 c_5 c_8 w0 w0a w0b rfl h0 h0a h0b rfl j1 bva cva rva kva k53 hj53 hk53 iv53 x_9 ex_9 c_10 hlt53 j2 bvb cvb rvb kvb k65 hj65 hk65 iv65 x_27 ex_27 c_28 hge65 x_30 ex_30 ej_31) (hP.sub [0, 1] rfl) (hD.sub [0, 1] (by decide) rfl) hS (lv_sub hl [0, 2, 3, 4, 5, 6, 7, 8, 9] rfl)
                  · have hlt65 : j2 < (13 - w0) := (lf_X12_body_33 h q i (nI w0) (nI h0) n3 c_2 c_5 c_8 w0 w0a w0b rfl h0 h0a h0b rfl j1 bva cva rva kva k53 hj53 hk53 iv53 x_9 ex_9 c_10 hlt53 j2 bvb cvb rvb kvb k65 hj65 hk65 iv65 x_27 ex_27 c_28)
                    refine lv_aload_n hx hb dX12_body_74 rfl (lv_at hl 6 rfl) ?_
                    refine lv_iload hx hb dX12_body_75 (lv_at hl 0 rfl) ?_
                    refine lv_iload hx hb dX12_body_77 (lv_at hl 1 rfl) ?_
                    refine lv_iload_n hx hb dX12_body_79 rfl (lv_at hl 7 rfl) ?_
                    refine lv_iload_n hx hb dX12_body_80 rfl (lv_at hl 8 rfl) ?_
                    refine eRi (va_runV (As := [.int (nI j2), .int (nI j1), .int (nI w0), .int (nI h0)]) (rest := []) ⟨hx, hb, hml, hown, hts⟩ (c_X12_muchAt l D cI cB cZ cJ tx h q i j2 j1 w0 h0 (lf_X12_body_34 h q i (nI w0) (nI h0) n3 c_2 c_5 c_8 w0 w0a w0b rfl h0 h0a h0b rfl j1 bva cva rva kva k53 hj53 hk53 iv53 x_9 ex_9 c_10 hlt53 j2 bvb cvb rvb kvb k65 hj65 hk65 iv65 x_27 ex_27 c_28 hlt65) (lf_X12_body_35 h q i (nI w0) (nI h0) n3 c_2 c_5 c_8 w0 w0a w0b rfl h0 h0a h0b rfl j1 bva cva rva kva k53 hj53 hk53 iv53 x_9 ex_9 c_10 hlt53 j2 bvb cvb rvb kvb k65 hj65 hk65 iv65 x_27 ex_27 c_28 hlt65) H.size) (zV hts k_2018 v_X12_muchAt ⟨Nat.le_of_ble_eq_true rfl, Nat.le_of_ble_eq_true rfl⟩) (pV (pxS hK hP hD [0, 1] (by decide) rfl) hK hP 0 rfl rfl) rfl rfl hl.1 rfl (lv_room (Nat.le_of_ble_eq_true rfl)) dX12_body_81 ⟨Nat.le_of_ble_eq_true rfl, Nat.le_of_ble_eq_true rfl⟩) hP hS hA (fun r_36 H locs wr_36 hP hS => ?_)
                    subst wr_36
                    refine lv_istore (lv' := [(10, .int 0), (9, .int (nI j2)), (8, .int (nI j1)), (7, .int kvb), (6, .int rvb), (5, .int cvb), (4, .int bvb), (0, .ref h), (1, .int (nI w0)), (2, .int (nI h0)), (3, .int n3)]) hx hb dX12_body_84 hl (by decide) rfl (fun ls hl => ?_)
                    refine lv_iload hx hb dX12_body_86 (lv_at hl 0 rfl) ?_
                    refine lv_iload hx hb dX12_body_88 (lv_at hl 6 rfl) ?_
                    refine lv_icmp_le (tgt := 108) hx hb dX12_body_90 (by decide) (fun c_37 => ?_) (fun c_37 => ?_)
                    · refine lv_iload hx hb dX12_body_108 (lv_at hl 3 rfl) ?_
                      refine lv_iload hx hb dX12_body_110 (lv_at hl 0 rfl) ?_
                      refine lv_iload hx hb dX12_body_112 (lv_at hl 6 rfl) ?_
                      refine lv_icmp_ne (tgt := 121) hx hb dX12_body_114 (by decide) (fun c_38 => absurd (lf_X12_body_39 h q i (nI w0) (nI h0) n3 c_2 c_5 c_8 w0 w0a w0b rfl h0 h0a h0b rfl j1 bva cva rva kva k53 hj53 hk53 iv53 x_9 ex_9 c_10 hlt53 j2 bvb cvb rvb kvb k65 hj65 hk65 iv65 x_27 ex_27 c_28 hlt65 c_37 c_38) id) (fun c_38 => ?_)
                      refine lv_iconst (v := 1) hx hb dX12_body_117 (by decide) ?_
                      refine lv_goto (tgt := 122) hx hb dX12_body_118 (by decide) ?_
                      refine lv_iadd hx hb dX12_body_122 ?_
                      refine lv_topi (fun x_40 ex_40 => ?_)
                      refine lv_istore (lv' := [(7, .int x_40), (10, .int 0), (9, .int (nI j2)), (8, .int (nI j1)), (6, .int rvb), (5, .int cvb), (4, .int bvb), (0, .ref h), (1, .int (nI w0)), (2, .int (nI h0)), (3, .int n3)]) hx hb dX12_body_123 hl (by decide) rfl (fun ls hl => ?_)
                      obtain ⟨x_41, ex_41⟩ : ∃ z : Int32, z = nI j2 + Int32.ofInt 1 := ⟨_, rfl⟩
                      refine lv_iinc (v := x_41) (lv' := [(9, .int x_41), (7, .int x_40), (10, .int 0), (8, .int (nI j1)), (6, .int rvb), (5, .int cvb), (4, .int bvb), (0, .ref h), (1, .int (nI w0)), (2, .int (nI h0)), (3, .int n3)]) hx hb dX12_body_125 hl (k := 2) rfl (ex_41.symm) (by decide) rfl (fun ls hl => ?_)
                      refine lv_goto (tgt := 65) hx hb dX12_body_128 (by decide) ?_
                      have ej_42 : x_41 = nI (j2 + 1) := ex_41.trans (nI_1 j2)
                      rw [ej_42] at hl
                      exact ih65 (j2 + 1) bvb cvb rvb x_40 H locs ls (by omega) (by omega) (lf_X12_body_43 h q i (nI w0) (nI h0) n3 c_2 c_5 c_8 w0 w0a w0b rfl h0 h0a h0b rfl j1 bva cva rva kva k53 hj53 hk53 iv53 x_9 ex_9 c_10 hlt53 j2 bvb cvb rvb kvb k65 hj65 hk65 iv65 x_27 ex_27 c_28 hlt65 c_37 c_38 x_40 ex_40 x_41 ex_41 ej_42) (hP.sub [0, 1] rfl) (hD.sub [0, 1] (by decide) rfl) hS (lv_sub hl [0, 3, 1, 4, 5, 6, 7, 8, 9, 10] rfl)
                    · refine lv_iload hx hb dX12_body_93 (lv_at hl 0 rfl) ?_
                      refine lv_istore (lv' := [(4, .int 0), (10, .int 0), (9, .int (nI j2)), (8, .int (nI j1)), (7, .int kvb), (6, .int rvb), (5, .int cvb), (0, .ref h), (1, .int (nI w0)), (2, .int (nI h0)), (3, .int n3)]) hx hb dX12_body_95 hl (by decide) rfl (fun ls hl => ?_)
                      refine lv_iload hx hb dX12_body_97 (lv_at hl 2 rfl) ?_
                      refine lv_istore (lv' := [(5, .int (nI j2)), (4, .int 0), (10, .int 0), (9, .int (nI j2)), (8, .int (nI j1)), (7, .int kvb), (6, .int rvb), (0, .ref h), (1, .int (nI w0)), (2, .int (nI h0)), (3, .int n3)]) hx hb dX12_body_99 hl (by decide) rfl (fun ls hl => ?_)
                      refine lv_iload hx hb dX12_body_101 (lv_at hl 4 rfl) ?_
                      refine lv_istore (lv' := [(6, .int (nI j1)), (5, .int (nI j2)), (4, .int 0), (10, .int 0), (9, .int (nI j2)), (8, .int (nI j1)), (7, .int kvb), (0, .ref h), (1, .int (nI w0)), (2, .int (nI h0)), (3, .int n3)]) hx hb dX12_body_103 hl (by decide) rfl (fun ls hl => ?_)
                      refine lv_iconst (v := 0) hx hb dX12_body_105 (by decide) ?_
                      refine lv_istore (lv' := [(7, .int 0), (6, .int (nI j1)), (5, .int (nI j2)), (4, .int 0), (10, .int 0), (9, .int (nI j2)), (8, .int (nI j1)), (0, .ref h), (1, .int (nI w0)), (2, .int (nI h0)), (3, .int n3)]) hx hb dX12_body_106 hl (by decide) rfl (fun ls hl => ?_)
                      refine lv_iload hx hb dX12_body_108 (lv_at hl 0 rfl) ?_
                      refine lv_iload hx hb dX12_body_110 (lv_at hl 4 rfl) ?_
                      refine lv_iload hx hb dX12_body_112 (lv_at hl 3 rfl) ?_
                      refine lv_icmp_ne (tgt := 121) hx hb dX12_body_114 (by decide) (fun c => absurd c (by decide)) (fun _ => ?_)
                      refine lv_iconst (v := 1) hx hb dX12_body_117 (by decide) ?_
                      refine lv_goto (tgt := 122) hx hb dX12_body_118 (by decide) ?_
                      refine lv_iadd hx hb dX12_body_122 ?_
                      refine lv_topv (y := 1) (by decide) ?_
                      refine lv_istore (lv' := [(7, .int 1), (6, .int (nI j1)), (5, .int (nI j2)), (4, .int 0), (10, .int 0), (9, .int (nI j2)), (8, .int (nI j1)), (0, .ref h), (1, .int (nI w0)), (2, .int (nI h0)), (3, .int n3)]) hx hb dX12_body_123 hl (by decide) rfl (fun ls hl => ?_)
                      obtain ⟨x_44, ex_44⟩ : ∃ z : Int32, z = nI j2 + Int32.ofInt 1 := ⟨_, rfl⟩
                      refine lv_iinc (v := x_44) (lv' := [(9, .int x_44), (7, .int 1), (6, .int (nI j1)), (5, .int (nI j2)), (4, .int 0), (10, .int 0), (8, .int (nI j1)), (0, .ref h), (1, .int (nI w0)), (2, .int (nI h0)), (3, .int n3)]) hx hb dX12_body_125 hl (k := 5) rfl (ex_44.symm) (by decide) rfl (fun ls hl => ?_)
                      refine lv_goto (tgt := 65) hx hb dX12_body_128 (by decide) ?_
                      have ej_45 : x_44 = nI (j2 + 1) := ex_44.trans (nI_1 j2)
                      rw [ej_45] at hl
                      exact ih65 (j2 + 1) 0 (nI j2) (nI j1) 1 H locs ls (by omega) (by omega) (lf_X12_body_46 h q i (nI w0) (nI h0) n3 c_2 c_5 c_8 w0 w0a w0b rfl h0 h0a h0b rfl j1 bva cva rva kva k53 hj53 hk53 iv53 x_9 ex_9 c_10 hlt53 j2 bvb cvb rvb kvb k65 hj65 hk65 iv65 x_27 ex_27 c_28 hlt65 c_37 x_44 ex_44 ej_45) (hP.sub [0, 1] rfl) (hD.sub [0, 1] (by decide) rfl) hS (lv_sub hl [0, 6, 1, 2, 3, 4, 7, 8, 9, 10] rfl)
              exact lp65 ((13 - w0) + 1) 0 bva cva rva kva H locs ls (by omega) (by omega) (lf_X12_body_47 h q i (nI w0) (nI h0) n3 c_2 c_5 c_8 w0 w0a w0b rfl h0 h0a h0b rfl j1 bva cva rva kva k53 hj53 hk53 iv53 x_9 ex_9 c_10 hlt53) (hP.sub [0, 1] rfl) (hD.sub [0, 1] (by decide) rfl) hS (lv_sub hl [0, 1, 2, 3, 4, 5, 6, 7, 8, 9] rfl)
        exact lp53 ((7 - h0) + 1) 0 (-1) 0 0 0 H locs ls (by omega) (by omega) (lf_X12_body_48 h q i (nI w0) (nI h0) n3 c_2 c_5 c_8 w0 w0a w0b rfl h0 h0a h0b rfl) (hP.sub [0, 1] rfl) (hD.sub [0, 1] (by decide) rfl) hS (lv_sub hl [0, 1, 2, 3, 4, 5, 6, 7, 8] rfl)
      · refine lv_iconst (v := (-1)) hx hb dX12_body_36 (by decide) ?_
        exact W.iret (v := (-1)) hx hb hr (fun t ht hW => ⟨⟨((-1) : Int32), (), rfl, (lf_X12_body_49 h q i n1 n2 n3 c_2 c_5 c_8), bx0⟩, hS.F ht⟩) hS.2.2 dX12_body_37 hlocks
