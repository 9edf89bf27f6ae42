theorem sg_of {sg : Int32} {pa en : Nat} (h : SG sg pa en) (c : ¬ sg < 0) : ∃ k : Nat, k < 256 ∧ sg = nI k ∧ pa < en := by
  rcases h with rfl | h
  · exact absurd (by decide) c
  · exact h
theorem sg_mk {r : Int32} {pa en : Nat} (h : r = -1 ∨ ∃ k : Nat, k < 256 ∧ r = nI k) (hl : pa < en) : SG r pa en := h.elim Or.inl (fun ⟨k, h1, h2⟩ => Or.inr ⟨k, h1, h2, hl⟩)
theorem sg_nI {k pa en : Nat} (h : k < 256) (hl : pa < en) : SG (nI k) pa en := Or.inr ⟨k, h, rfl, hl⟩
theorem has_use {i k : Nat} {r : Int32} (h : 0 ≤ r → sHas i k = true) (c : ¬ r < 0) : sHas i k = true := h (Int32.not_lt.mp c)
theorem lf_X8_byteAt_b_2 (a : Nat → Nat) (tu : Nat) (tb : Nat → Int32) (n1 : Int32) (htu : tu ≤ 220) (c_1 : n1 < 0) : (((-1) : Int32) = -1 ∨ ∃ k : Nat, k < 256 ∧ ((-1) : Int32) = nI k) := by
  first
    | exact Or.inl rfl
    | (right; subst_vars; exact pk_andE _ 8 (by decide))
theorem lf_X8_byteAt_b_4 (a : Nat → Nat) (tu : Nat) (tb : Nat → Int32) (n1 : Int32) (htu : tu ≤ 220) (c_1 : ¬ n1 < 0) (c_3 : nI tu ≤ n1) : (((-1) : Int32) = -1 ∨ ∃ k : Nat, k < 256 ∧ ((-1) : Int32) = nI k) := by
  first
    | exact Or.inl rfl
    | (right; subst_vars; exact pk_andE _ 8 (by decide))
theorem lf_X8_byteAt_b_5 (a : Nat → Nat) (tu : Nat) (tb : Nat → Int32) (n1 : Int32) (htu : tu ≤ 220) (c_1 : ¬ n1 < 0) (c_3 : ¬ nI tu ≤ n1) : vp_in n1 220 := by
  exact in_lt (by assumption) (by assumption) (by omega) (by decide)
theorem lf_X8_byteAt_b_8 (a : Nat → Nat) (tu : Nat) (tb : Nat → Int32) (n1 : Int32) (htu : tu ≤ 220) (c_1 : ¬ n1 < 0) (c_3 : ¬ nI tu ≤ n1) (x_6 : Int32) (x_7 : Int32) (ex_7 : x_7 = x_6 &&& 255) : ((x_7 : Int32) = -1 ∨ ∃ k : Nat, k < 256 ∧ (x_7 : Int32) = nI k) := by
  first
    | exact Or.inl rfl
    | (right; subst_vars; exact pk_andE _ 8 (by decide))
set_option maxHeartbeats 4000000 in
set_option maxRecDepth 100000 in
theorem c_X8_byteAt_b (l : Launch) (D : va_G) (cI cB cZ cJ : ClassId) (tx : List (ClassId × FieldType)) (a : Nat → Nat) (tu : Nat) (tb : Nat → Int32) (n1 : Int32) (htu : tu ≤ 220) : RdI l D cI cB cZ cJ tx yX8_byteAt cX8_byteAt 2 (some .int) 0 [.ref (a 1), .int n1] [(a 1, .inr (8, [.ref (a 17), .int (nI tu)])), (a 17, .inl (cB, 220, .inl tb))] (fun r => (r = -1 ∨ ∃ k : Nat, k < 256 ∧ r = nI k)) := by
  refine rdi_of2 (by decide) (Nat.le_of_ble_eq_true rfl) ?_
  intro p e s m below meth c A ls H locs hC hK hP hD hA hS hl
  obtain ⟨hx, hb, hr, hml, hown, hts, hlocks, hin⟩ := hC
  have hown : s.vm.findClass RX8 = some m.cls := hown
  have hl : lv_has ls 2 [(0, .ref (a 1)), (1, .int n1)] := hl
  refine lv_iload_n hx hb dX8_byteAt_0 rfl (lv_at hl 1 rfl) ?_
  refine lv_if_lt (tgt := 25) hx hb dX8_byteAt_1 (by decide) (fun c_1 => ?_) (fun c_1 => ?_)
  · refine lv_iconst (v := (-1)) hx hb dX8_byteAt_25 (by decide) ?_
    exact W.iret (v := (-1)) hx hb hr (fun tt9 ht hW => ⟨⟨((-1) : Int32), (), rfl, (lf_X8_byteAt_b_2 a tu tb n1 htu c_1), trivial⟩, hS.F ht⟩) hS.2.2 dX8_byteAt_26 hlocks
  · refine lv_iload_n hx hb dX8_byteAt_4 rfl (lv_at hl 1 rfl) ?_
    refine lv_aload_n hx hb dX8_byteAt_5 rfl (lv_at hl 0 rfl) ?_
    refine va_get (D := D) (ci := 8) (v := .int (nI tu)) (C := RX8) (T := TX8) (N := 2) hx hb hts inT_X8 hown hK.1 hP 0 rfl rfl 1 (by decide) (hts _ k_151) (fun _ h9 => h9) rfl dX8_byteAt_6 ?_
    refine lv_icmp_ge (tgt := 25) hx hb dX8_byteAt_9 (by decide) (fun c_3 => ?_) (fun c_3 => ?_)
    · refine lv_iconst (v := (-1)) hx hb dX8_byteAt_25 (by decide) ?_
      exact W.iret (v := (-1)) hx hb hr (fun tt9 ht hW => ⟨⟨((-1) : Int32), (), rfl, (lf_X8_byteAt_b_4 a tu tb n1 htu c_1 c_3), trivial⟩, hS.F ht⟩) hS.2.2 dX8_byteAt_26 hlocks
    · refine lv_aload_n hx hb dX8_byteAt_12 rfl (lv_at hl 0 rfl) ?_
      refine va_get (D := D) (ci := 8) (v := .ref (a 17)) (C := RX8) (T := TX8) (N := 2) hx hb hts inT_X8 hown hK.1 hP 0 rfl rfl 0 (by decide) (hts _ k_150) (fun _ h9 => h9) rfl dX8_byteAt_13 ?_
      refine lv_iload_n hx hb dX8_byteAt_16 rfl (lv_at hl 1 rfl) ?_
      refine ld_b hx hb hK hP 1 rfl (lf_X8_byteAt_b_5 a tu tb n1 htu c_1 c_3) dX8_byteAt_17 (fun x_6 => ?_)
      refine lv_sipush (v := 255) hx hb dX8_byteAt_18 (by decide) ?_
      refine lv_iand hx hb dX8_byteAt_21 ?_
      refine lv_topi (fun x_7 ex_7 => ?_)
      refine lv_goto (tgt := 26) hx hb dX8_byteAt_22 (by decide) ?_
      exact W.iret (v := x_7) hx hb hr (fun tt9 ht hW => ⟨⟨(x_7 : Int32), (), rfl, (lf_X8_byteAt_b_8 a tu tb n1 htu c_1 c_3 x_6 x_7 ex_7), trivial⟩, hS.F ht⟩) hS.2.2 dX8_byteAt_26 hlocks

theorem lf_X3_advance_0_3 (a : Nat → Nat) (t : Nat → Nat) (en : Nat) (pa : Nat) (sg : Int32) (fa : Int32) (tu : Nat) (tb : Nat → Int32) (htu : tu ≤ 220) (hen : en ≤ 200) (hpa : pa ≤ en) (hlt : pa < en) (c_1 : nI en ≤ nI (pa + 1)) : en ≤ (pa + 1) := by
  exact (nI_leI (a := en) (b := (pa + 1)) (by omega) (by omega)).mp c_1
theorem lf_X3_advance_0_4 (a : Nat → Nat) (t : Nat → Nat) (en : Nat) (pa : Nat) (sg : Int32) (fa : Int32) (tu : Nat) (tb : Nat → Int32) (htu : tu ≤ 220) (hen : en ≤ 200) (hpa : pa ≤ en) (hlt : pa < en) (c_1 : nI en ≤ nI (pa + 1)) (n_2 : en ≤ (pa + 1)) : (((pa + 1) : Nat) = pa + 1) ∧ (((pa + 1) : Nat) ≤ en) ∧ (SG ((-1) : Int32) ((pa + 1) : Nat) en) := by
  first
    | exact ⟨rfl, by omega, Or.inl rfl⟩
    | exact ⟨rfl, by omega, sg_mk (by assumption) (by omega)⟩
theorem lf_X3_advance_0_6 (a : Nat → Nat) (t : Nat → Nat) (en : Nat) (pa : Nat) (sg : Int32) (fa : Int32) (tu : Nat) (tb : Nat → Int32) (htu : tu ≤ 220) (hen : en ≤ 200) (hpa : pa ≤ en) (hlt : pa < en) (c_1 : ¬ nI en ≤ nI (pa + 1)) : (pa + 1) < en := by
  exact Nat.lt_of_not_le (fun q => c_1 ((nI_leI (a := en) (b := (pa + 1)) (by omega) (by omega)).mpr q))
theorem lf_X3_advance_0_7 (a : Nat → Nat) (t : Nat → Nat) (en : Nat) (pa : Nat) (sg : Int32) (fa : Int32) (tu : Nat) (tb : Nat → Int32) (htu : tu ≤ 220) (hen : en ≤ 200) (hpa : pa ≤ en) (hlt : pa < en) (c_1 : ¬ nI en ≤ nI (pa + 1)) (n_5 : (pa + 1) < en) : tu ≤ 220 := by
  first | assumption | omega | decide
theorem lf_X3_advance_0_9 (a : Nat → Nat) (t : Nat → Nat) (en : Nat) (pa : Nat) (sg : Int32) (fa : Int32) (tu : Nat) (tb : Nat → Int32) (htu : tu ≤ 220) (hen : en ≤ 200) (hpa : pa ≤ en) (hlt : pa < en) (c_1 : ¬ nI en ≤ nI (pa + 1)) (n_5 : (pa + 1) < en) (r_8 : Int32) (wr_8 : (r_8 = -1 ∨ ∃ k : Nat, k < 256 ∧ r_8 = nI k)) : (((pa + 1) : Nat) = pa + 1) ∧ (((pa + 1) : Nat) ≤ en) ∧ (SG (r_8 : Int32) ((pa + 1) : Nat) en) := by
  first
    | exact ⟨rfl, by omega, Or.inl rfl⟩
    | exact ⟨rfl, by omega, sg_mk (by assumption) (by omega)⟩
set_option maxHeartbeats 4000000 in
set_option maxRecDepth 100000 in
theorem c_X3_advance_0 (l : Launch) (D : va_G) (cI cB cZ cJ : ClassId) (tx : List (ClassId × FieldType)) (a : Nat → Nat) (t : Nat → Nat) (en : Nat) (pa : Nat) (sg : Int32) (fa : Int32) (tu : Nat) (tb : Nat → Int32) (htu : tu ≤ 220) (hen : en ≤ 200) (hpa : pa ≤ en) (hlt : pa < en) : WrV l D cI cB cZ cJ tx yX3_advance cX3_advance 1 none 1 0 0 [.ref (a 2)] [(a 2, .inr (3, [.ref (a 1), .ref (t 0), .int (nI en), .int (nI pa), .int sg, .int 0, .int fa])), (a 1, .inr (8, [.ref (a 17), .int (nI tu)])), (a 17, .inl (cB, 220, .inl tb))] (fun (v : (Nat) × (Int32)) => (v.1 = pa + 1) ∧ (v.1 ≤ en) ∧ (SG v.2 v.1 en)) (fun v => [(a 2, .inr (3, [.ref (a 1), .ref (t 0), .int (nI en), .int (nI (v.1)), .int v.2, .int 0, .int fa])), (a 1, .inr (8, [.ref (a 17), .int (nI tu)])), (a 17, .inl (cB, 220, .inl tb))]) := by
  refine wrv_of2 (by decide) (Nat.le_of_ble_eq_true rfl) ?_
  intro p e s m below meth c A ls H locs hC hK hP hD hA hS hl
  obtain ⟨hx, hb, hr, hml, hown, hts, hlocks, hin⟩ := hC
  have hown : s.vm.findClass RX3 = some m.cls := hown
  have hl : lv_has ls 1 [(0, .ref (a 2))] := hl
  refine lv_aload_n hx hb dX3_advance_0 rfl (lv_at hl 0 rfl) ?_
  refine lv_dup hx hb dX3_advance_1 rfl ?_
  refine va_get (D := D) (ci := 3) (v := .int (nI pa)) (C := RX3) (T := TX3) (N := 7) hx hb hts inT_X3 hown hK.1 hP 0 rfl rfl 3 (by decide) (hts _ k_168) (fun _ h9 => h9) rfl dX3_advance_2 ?_
  refine lv_iconst (v := 1) hx hb dX3_advance_5 (by decide) ?_
  refine lv_iadd hx hb dX3_advance_6 ?_
  refine lv_topv (y := nI (pa + 1)) (nI_add pa 1) ?_
  refine va_put (D := D) (ci := 3) (v := .int (nI (pa + 1))) (ty := .int) (C := RX3) (T := TX3) (N := 7) hx hb hts inT_X3 tyX3 tyX3_ok nmX3 hown hK.1 hP hD hS 0 rfl rfl 3 (by decide) (hts _ k_168) (fun _ h9 => h9) rfl (by decide +kernel) rfl rfl (Nat.le_of_ble_eq_true rfl) dX3_advance_7 (fun H locs hP hD hS => ?_)
  have hP : va_P D vwCl [(a 2, .inr (3, [.ref (a 1), .ref (t 0), .int (nI en), .int (nI (pa + 1)), .int sg, .int 0, .int fa])), (a 1, .inr (8, [.ref (a 17), .int (nI tu)])), (a 17, .inl (cB, 220, .inl tb))] H := hP
  have hD : va_D A [(a 2, .inr (3, [.ref (a 1), .ref (t 0), .int (nI en), .int (nI (pa + 1)), .int sg, .int 0, .int fa])), (a 1, .inr (8, [.ref (a 17), .int (nI tu)])), (a 17, .inl (cB, 220, .inl tb))] := hD
  refine lv_aload_n hx hb dX3_advance_10 rfl (lv_at hl 0 rfl) ?_
  refine lv_aload_n hx hb dX3_advance_11 rfl (lv_at hl 0 rfl) ?_
  refine va_get (D := D) (ci := 3) (v := .int (nI (pa + 1))) (C := RX3) (T := TX3) (N := 7) hx hb hts inT_X3 hown hK.1 hP 0 rfl rfl 3 (by decide) (hts _ k_168) (fun _ h9 => h9) rfl dX3_advance_12 ?_
  refine lv_aload_n hx hb dX3_advance_15 rfl (lv_at hl 0 rfl) ?_
  refine va_get (D := D) (ci := 3) (v := .int (nI en)) (C := RX3) (T := TX3) (N := 7) hx hb hts inT_X3 hown hK.1 hP 0 rfl rfl 2 (by decide) (hts _ k_167) (fun _ h9 => h9) rfl dX3_advance_16 ?_
  refine lv_icmp_ge (tgt := 36) hx hb dX3_advance_19 (by decide) (fun c_1 => ?_) (fun c_1 => ?_)
  · have n_2 : en ≤ (pa + 1) := (lf_X3_advance_0_3 a t en pa sg fa tu tb htu hen hpa hlt c_1)
    refine lv_iconst (v := (-1)) hx hb dX3_advance_36 (by decide) ?_
    refine va_put (D := D) (ci := 3) (v := .int (-1)) (ty := .int) (C := RX3) (T := TX3) (N := 7) hx hb hts inT_X3 tyX3 tyX3_ok nmX3 hown hK.1 hP hD hS 0 rfl rfl 4 (by decide) (hts _ k_169) (fun _ h9 => h9) rfl (by decide +kernel) rfl rfl (Nat.le_of_ble_eq_true rfl) dX3_advance_37 (fun H locs hP hD hS => ?_)
    have hP : va_P D vwCl [(a 2, .inr (3, [.ref (a 1), .ref (t 0), .int (nI en), .int (nI (pa + 1)), .int (-1), .int 0, .int fa])), (a 1, .inr (8, [.ref (a 17), .int (nI tu)])), (a 17, .inl (cB, 220, .inl tb))] H := hP
    have hD : va_D A [(a 2, .inr (3, [.ref (a 1), .ref (t 0), .int (nI en), .int (nI (pa + 1)), .int (-1), .int 0, .int fa])), (a 1, .inr (8, [.ref (a 17), .int (nI tu)])), (a 17, .inl (cB, 220, .inl tb))] := hD
    exact W.vret hx hb hr (fun tt9 ht hW => ⟨⟨(((pa + 1) : Nat), ((-1) : Int32)), rfl, (lf_X3_advance_0_4 a t en pa sg fa tu tb htu hen hpa hlt c_1 n_2), ⟨by rw [ht]; exact hP, hD⟩⟩, hS.F ht⟩) hS.2.2 dX3_advance_40 hlocks
  · have n_5 : (pa + 1) < en := (lf_X3_advance_0_6 a t en pa sg fa tu tb htu hen hpa hlt c_1)
    refine lv_aload_n hx hb dX3_advance_22 rfl (lv_at hl 0 rfl) ?_
    refine va_get (D := D) (ci := 3) (v := .ref (a 1)) (C := RX3) (T := TX3) (N := 7) hx hb hts inT_X3 hown hK.1 hP 0 rfl rfl 0 (by decide) (hts _ k_165) (fun _ h9 => h9) rfl dX3_advance_23 ?_
    refine lv_aload_n hx hb dX3_advance_26 rfl (lv_at hl 0 rfl) ?_
    refine va_get (D := D) (ci := 3) (v := .int (nI (pa + 1))) (C := RX3) (T := TX3) (N := 7) hx hb hts inT_X3 hown hK.1 hP 0 rfl rfl 3 (by decide) (hts _ k_168) (fun _ h9 => h9) rfl dX3_advance_27 ?_
    refine eRi (va_runV (As := [.int (nI (pa + 1))]) (rest := [.ref (a 2)]) ⟨hx, hb, hml, hown, hts⟩ (c_X8_byteAt_b l D cI cB cZ cJ tx a tu tb (nI (pa + 1)) (lf_X3_advance_0_7 a t en pa sg fa tu tb htu hen hpa hlt c_1 n_5) H.size) (zV hts k_564 v_X8_byteAt ⟨Nat.le_of_ble_eq_true rfl, Nat.le_of_ble_eq_true rfl⟩) (pV (pxS hK hP hD [1, 2] (by decide) rfl) hK hP 1 rfl rfl) rfl rfl hl.1 rfl (lv_room (Nat.le_of_ble_eq_true rfl)) dX3_advance_30 ⟨Nat.le_of_ble_eq_true rfl, Nat.le_of_ble_eq_true rfl⟩) hP hS hA (fun r_8 H locs wr_8 hP hS => ?_)
    refine lv_goto (tgt := 37) hx hb dX3_advance_33 (by decide) ?_
    refine va_put (D := D) (ci := 3) (v := .int r_8) (ty := .int) (C := RX3) (T := TX3) (N := 7) hx hb hts inT_X3 tyX3 tyX3_ok nmX3 hown hK.1 hP hD hS 0 rfl rfl 4 (by decide) (hts _ k_169) (fun _ h9 => h9) rfl (by decide +kernel) rfl rfl (Nat.le_of_ble_eq_true rfl) dX3_advance_37 (fun H locs hP hD hS => ?_)
    have hP : va_P D vwCl [(a 2, .inr (3, [.ref (a 1), .ref (t 0), .int (nI en), .int (nI (pa + 1)), .int r_8, .int 0, .int fa])), (a 1, .inr (8, [.ref (a 17), .int (nI tu)])), (a 17, .inl (cB, 220, .inl tb))] H := hP
    have hD : va_D A [(a 2, .inr (3, [.ref (a 1), .ref (t 0), .int (nI en), .int (nI (pa + 1)), .int r_8, .int 0, .int fa])), (a 1, .inr (8, [.ref (a 17), .int (nI tu)])), (a 17, .inl (cB, 220, .inl tb))] := hD
    exact W.vret hx hb hr (fun tt9 ht hW => ⟨⟨(((pa + 1) : Nat), (r_8 : Int32)), rfl, (lf_X3_advance_0_9 a t en pa sg fa tu tb htu hen hpa hlt c_1 n_5 r_8 wr_8), ⟨by rw [ht]; exact hP, hD⟩⟩, hS.F ht⟩) hS.2.2 dX3_advance_40 hlocks

set_option maxHeartbeats 4000000 in
set_option maxRecDepth 100000 in
theorem c_X3_refuse_0 (l : Launch) (D : va_G) (cI cB cZ cJ : ClassId) (tx : List (ClassId × FieldType)) (a : Nat → Nat) (t : Nat → Nat) (en : Nat) (pa : Nat) (sg : Int32) (fa : Int32) (n1 : Int32) : WrV l D cI cB cZ cJ tx yX3_refuse cX3_refuse 2 none 0 0 0 [.ref (a 2), .int n1] [(a 2, .inr (3, [.ref (a 1), .ref (t 0), .int (nI en), .int (nI pa), .int sg, .int 0, .int fa]))] (fun (v : (Int32)) => True) (fun v => [(a 2, .inr (3, [.ref (a 1), .ref (t 0), .int (nI en), .int (nI pa), .int sg, .int 0, .int v]))]) := by
  refine wrv_of2 (by decide) (Nat.le_of_ble_eq_true rfl) ?_
  intro p e s m below meth c A ls H locs hC hK hP hD hA hS hl
  obtain ⟨hx, hb, hr, hml, hown, hts, hlocks, hin⟩ := hC
  have hown : s.vm.findClass RX3 = some m.cls := hown
  have hl : lv_has ls 2 [(0, .ref (a 2)), (1, .int n1)] := hl
  refine lv_aload_n hx hb dX3_refuse_0 rfl (lv_at hl 0 rfl) ?_
  refine va_get (D := D) (ci := 3) (v := .int fa) (C := RX3) (T := TX3) (N := 7) hx hb hts inT_X3 hown hK.1 hP 0 rfl rfl 6 (by decide) (hts _ k_171) (fun _ h9 => h9) rfl dX3_refuse_1 ?_
  refine lv_if_ne (tgt := 12) hx hb dX3_refuse_4 (by decide) (fun c_1 => ?_) (fun c_1 => ?_)
  · exact W.vret hx hb hr (fun tt9 ht hW => ⟨⟨((fa : Int32)), rfl, trivial, ⟨by rw [ht]; exact hP, hD⟩⟩, hS.F ht⟩) hS.2.2 dX3_refuse_12 hlocks
  · refine lv_aload_n hx hb dX3_refuse_7 rfl (lv_at hl 0 rfl) ?_
    refine lv_iload_n hx hb dX3_refuse_8 rfl (lv_at hl 1 rfl) ?_
    refine va_put (D := D) (ci := 3) (v := .int n1) (ty := .int) (C := RX3) (T := TX3) (N := 7) hx hb hts inT_X3 tyX3 tyX3_ok nmX3 hown hK.1 hP hD hS 0 rfl rfl 6 (by decide) (hts _ k_171) (fun _ h9 => h9) rfl (by decide +kernel) rfl rfl (Nat.le_of_ble_eq_true rfl) dX3_refuse_9 (fun H locs hP hD hS => ?_)
    have hP : va_P D vwCl [(a 2, .inr (3, [.ref (a 1), .ref (t 0), .int (nI en), .int (nI pa), .int sg, .int 0, .int n1]))] H := hP
    have hD : va_D A [(a 2, .inr (3, [.ref (a 1), .ref (t 0), .int (nI en), .int (nI pa), .int sg, .int 0, .int n1]))] := hD
    exact W.vret hx hb hr (fun tt9 ht hW => ⟨⟨((n1 : Int32)), rfl, trivial, ⟨by rw [ht]; exact hP, hD⟩⟩, hS.F ht⟩) hS.2.2 dX3_refuse_12 hlocks

theorem lf_X3_isOneOf_0_2 (a : Nat → Nat) (t : Nat → Nat) (en : Nat) (pa : Nat) (sg : Int32) (fa : Int32) (i0 : Nat) (hi0 : i0 < 16) (hsg : SG sg pa en) (c_1 : ¬ fa = 0) : ((0 : Int32) = 0) ∨ ((0 : Int32) = 1 ∧ ∃ k : Nat, k < 256 ∧ sg = nI k ∧ pa < en ∧ sHas i0 k = true) := by
  first
    | exact Or.inl rfl
    | exact Or.inr ⟨rfl, kq, hkq, by assumption, lkq, has_use (by assumption) (by assumption)⟩
theorem lf_X3_isOneOf_0_4 (a : Nat → Nat) (t : Nat → Nat) (en : Nat) (pa : Nat) (sg : Int32) (fa : Int32) (i0 : Nat) (hi0 : i0 < 16) (hsg : SG sg pa en) (c_1 : fa = 0) (c_3 : sg < 0) : ((0 : Int32) = 0) ∨ ((0 : Int32) = 1 ∧ ∃ k : Nat, k < 256 ∧ sg = nI k ∧ pa < en ∧ sHas i0 k = true) := by
  first
    | exact Or.inl rfl
    | exact Or.inr ⟨rfl, kq, hkq, by assumption, lkq, has_use (by assumption) (by assumption)⟩
theorem lf_X3_isOneOf_0_5 (a : Nat → Nat) (t : Nat → Nat) (en : Nat) (pa : Nat) (sg : Int32) (fa : Int32) (i0 : Nat) (hi0 : i0 < 16) (hsg : SG sg pa en) (c_1 : fa = 0) (c_3 : ¬ sg < 0) (kq : Nat) (hkq : kq < 256) (ekq : sg = nI kq) (lkq : pa < en) : kq < 65536 := by
  omega
theorem lf_X3_isOneOf_0_6 (a : Nat → Nat) (t : Nat → Nat) (en : Nat) (pa : Nat) (sg : Int32) (fa : Int32) (i0 : Nat) (hi0 : i0 < 16) (hsg : SG sg pa en) (c_1 : fa = 0) (c_3 : ¬ sg < 0) (kq : Nat) (hkq : kq < 256) (ekq : sg = nI kq) (lkq : pa < en) : i0 < 16 := by
  first | assumption | omega | decide | exact sg_nI (by assumption) (by assumption)
theorem lf_X3_isOneOf_0_7 (a : Nat → Nat) (t : Nat → Nat) (en : Nat) (pa : Nat) (sg : Int32) (fa : Int32) (i0 : Nat) (hi0 : i0 < 16) (hsg : SG sg pa en) (c_1 : fa = 0) (c_3 : ¬ sg < 0) (kq : Nat) (hkq : kq < 256) (ekq : sg = nI kq) (lkq : pa < en) : kq < 256 := by
  first | assumption | omega | decide | exact sg_nI (by assumption) (by assumption)
theorem lf_X3_isOneOf_0_8 (a : Nat → Nat) (t : Nat → Nat) (en : Nat) (pa : Nat) (sg : Int32) (fa : Int32) (i0 : Nat) (hi0 : i0 < 16) (hsg : SG sg pa en) (c_1 : fa = 0) (c_3 : ¬ sg < 0) (kq : Nat) (hkq : kq < 256) (ekq : sg = nI kq) (lkq : pa < en) : i0 < 16 := by
  first | omega | assumption
theorem lf_X3_isOneOf_0_11 (a : Nat → Nat) (t : Nat → Nat) (en : Nat) (pa : Nat) (sg : Int32) (fa : Int32) (i0 : Nat) (hi0 : i0 < 16) (hsg : SG sg pa en) (c_1 : fa = 0) (c_3 : ¬ sg < 0) (kq : Nat) (hkq : kq < 256) (ekq : sg = nI kq) (lkq : pa < en) (r_9 : Int32) (wr_9 : 0 ≤ r_9 → sHas i0 kq = true) (c_10 : r_9 < 0) : ((0 : Int32) = 0) ∨ ((0 : Int32) = 1 ∧ ∃ k : Nat, k < 256 ∧ sg = nI k ∧ pa < en ∧ sHas i0 k = true) := by
  first
    | exact Or.inl rfl
    | exact Or.inr ⟨rfl, kq, hkq, by assumption, lkq, has_use (by assumption) (by assumption)⟩
theorem lf_X3_isOneOf_0_12 (a : Nat → Nat) (t : Nat → Nat) (en : Nat) (pa : Nat) (sg : Int32) (fa : Int32) (i0 : Nat) (hi0 : i0 < 16) (hsg : SG sg pa en) (c_1 : fa = 0) (c_3 : ¬ sg < 0) (kq : Nat) (hkq : kq < 256) (ekq : sg = nI kq) (lkq : pa < en) (r_9 : Int32) (wr_9 : 0 ≤ r_9 → sHas i0 kq = true) (c_10 : ¬ r_9 < 0) : ((1 : Int32) = 0) ∨ ((1 : Int32) = 1 ∧ ∃ k : Nat, k < 256 ∧ sg = nI k ∧ pa < en ∧ sHas i0 k = true) := by
  first
    | exact Or.inl rfl
    | exact Or.inr ⟨rfl, kq, hkq, by assumption, lkq, has_use (by assumption) (by assumption)⟩
set_option maxHeartbeats 4000000 in
set_option maxRecDepth 100000 in
theorem c_X3_isOneOf_0 (l : Launch) (D : va_G) (cI cB cZ cJ : ClassId) (tx : List (ClassId × FieldType)) (adK adV : Nat → Nat) (a : Nat → Nat) (t : Nat → Nat) (en : Nat) (pa : Nat) (sg : Int32) (fa : Int32) (i0 : Nat) (hi0 : i0 < 16) (hsg : SG sg pa en) : RzI l D cI cB cZ cJ tx adK adV yX3_isOneOf cX3_isOneOf 2 (some .boolean) 4 [.ref (a 2), .ref (adK i0)] [(a 2, .inr (3, [.ref (a 1), .ref (t 0), .int (nI en), .int (nI pa), .int sg, .int 0, .int fa]))] (fun r => (r = 0) ∨ (r = 1 ∧ ∃ k : Nat, k < 256 ∧ sg = nI k ∧ pa < en ∧ sHas i0 k = true)) := by
  refine rzi_of2 (by decide +kernel) (Nat.le_of_ble_eq_true rfl) ?_
  intro p e s m below meth c A ls H locs hC hK hZ hP hD hA hS hl
  obtain ⟨hx, hb, hr, hml, hown, hts, hlocks, hin⟩ := hC
  have hown : s.vm.findClass RX3 = some m.cls := hown
  have hl : lv_has ls 2 [(0, .ref (a 2)), (1, .ref (adK i0))] := hl
  refine lv_aload_n hx hb dX3_isOneOf_0 rfl (lv_at hl 0 rfl) ?_
  refine va_get (D := D) (ci := 3) (v := .int fa) (C := RX3) (T := TX3) (N := 7) hx hb hts inT_X3 hown hK.1 hP 0 rfl rfl 6 (by decide) (hts _ k_171) (fun _ h9 => h9) rfl dX3_isOneOf_1 ?_
  refine lv_if_ne (tgt := 30) hx hb dX3_isOneOf_4 (by decide) (fun c_1 => ?_) (fun c_1 => ?_)
  · refine lv_iconst (v := 0) hx hb dX3_isOneOf_30 (by decide) ?_
    exact W.zret (v := 0) hx hb hr (by decide) (fun tt9 ht hW => ⟨⟨(0 : Int32), (), rfl, (lf_X3_isOneOf_0_2 a t en pa sg fa i0 hi0 hsg c_1), trivial⟩, hS.F ht⟩) hS.2.2 dX3_isOneOf_31 hlocks
  · refine lv_aload_n hx hb dX3_isOneOf_7 rfl (lv_at hl 0 rfl) ?_
    refine va_get (D := D) (ci := 3) (v := .int sg) (C := RX3) (T := TX3) (N := 7) hx hb hts inT_X3 hown hK.1 hP 0 rfl rfl 4 (by decide) (hts _ k_169) (fun _ h9 => h9) rfl dX3_isOneOf_8 ?_
    refine lv_if_lt (tgt := 30) hx hb dX3_isOneOf_11 (by decide) (fun c_3 => ?_) (fun c_3 => ?_)
    · refine lv_iconst (v := 0) hx hb dX3_isOneOf_30 (by decide) ?_
      exact W.zret (v := 0) hx hb hr (by decide) (fun tt9 ht hW => ⟨⟨(0 : Int32), (), rfl, (lf_X3_isOneOf_0_4 a t en pa sg fa i0 hi0 hsg c_1 c_3), trivial⟩, hS.F ht⟩) hS.2.2 dX3_isOneOf_31 hlocks
    · obtain ⟨kq, hkq, ekq, lkq⟩ := sg_of hsg c_3
      subst ekq
      refine lv_aload_n hx hb dX3_isOneOf_14 rfl (lv_at hl 1 rfl) ?_
      refine lv_aload_n hx hb dX3_isOneOf_15 rfl (lv_at hl 0 rfl) ?_
      refine va_get (D := D) (ci := 3) (v := .int (nI kq)) (C := RX3) (T := TX3) (N := 7) hx hb hts inT_X3 hown hK.1 hP 0 rfl rfl 4 (by decide) (hts _ k_169) (fun _ h9 => h9) rfl dX3_isOneOf_16 ?_
      refine lv_i2c hx hb dX3_isOneOf_19 (i2c_nI (lf_X3_isOneOf_0_5 a t en pa (nI kq) fa i0 hi0 hsg c_1 c_3 kq hkq rfl lkq)) ?_
      refine eRi (va_runV (As := [.int (nI kq)]) (rest := []) ⟨hx, hb, hml, hown, hts⟩ (c_J0_indexOf1 l D cI cB cZ cJ tx adK adV i0 kq (lf_X3_isOneOf_0_6 a t en pa (nI kq) fa i0 hi0 hsg c_1 c_3 kq hkq rfl lkq) (lf_X3_isOneOf_0_7 a t en pa (nI kq) fa i0 hi0 hsg c_1 c_3 kq hkq rfl lkq) H.size) (zV hts k_576 v_J0_indexOf_0f7a4 ⟨Nat.le_of_ble_eq_true rfl, Nat.le_of_ble_eq_true rfl⟩) (pVS (pz (px0 hK) hZ hS (aR hS hA)) hZ (lf_X3_isOneOf_0_8 a t en pa (nI kq) fa i0 hi0 hsg c_1 c_3 kq hkq rfl lkq) hS) rfl rfl hl.1 rfl (lv_room (Nat.le_of_ble_eq_true rfl)) dX3_isOneOf_20 ⟨Nat.le_of_ble_eq_true rfl, Nat.le_of_ble_eq_true rfl⟩) hP hS hA (fun r_9 H locs wr_9 hP hS => ?_)
      refine lv_if_lt (tgt := 30) hx hb dX3_isOneOf_23 (by decide) (fun c_10 => ?_) (fun c_10 => ?_)
      · refine lv_iconst (v := 0) hx hb dX3_isOneOf_30 (by decide) ?_
        exact W.zret (v := 0) hx hb hr (by decide) (fun tt9 ht hW => ⟨⟨(0 : Int32), (), rfl, (lf_X3_isOneOf_0_11 a t en pa (nI kq) fa i0 hi0 hsg c_1 c_3 kq hkq rfl lkq r_9 wr_9 c_10), trivial⟩, hS.F ht⟩) hS.2.2 dX3_isOneOf_31 hlocks
      · refine lv_iconst (v := 1) hx hb dX3_isOneOf_26 (by decide) ?_
        refine lv_goto (tgt := 31) hx hb dX3_isOneOf_27 (by decide) ?_
        exact W.zret (v := 1) hx hb hr (by decide) (fun tt9 ht hW => ⟨⟨(1 : Int32), (), rfl, (lf_X3_isOneOf_0_12 a t en pa (nI kq) fa i0 hi0 hsg c_1 c_3 kq hkq rfl lkq r_9 wr_9 c_10), trivial⟩, hS.F ht⟩) hS.2.2 dX3_isOneOf_31 hlocks

theorem lf_X3_take_0_1 (a : Nat → Nat) (t : Nat → Nat) (en : Nat) (pa : Nat) (sg : Int32) (fa : Int32) (tu : Nat) (tb : Nat → Int32) (i0 : Nat) (hi0 : i0 < 16) (htu : tu ≤ 220) (hen : en ≤ 200) (hpa : pa ≤ en) (hsg : SG sg pa en) : i0 < 16 := by
  first | assumption | omega | decide | exact sg_nI (by assumption) (by assumption)
theorem lf_X3_take_0_2 (a : Nat → Nat) (t : Nat → Nat) (en : Nat) (pa : Nat) (sg : Int32) (fa : Int32) (tu : Nat) (tb : Nat → Int32) (i0 : Nat) (hi0 : i0 < 16) (htu : tu ≤ 220) (hen : en ≤ 200) (hpa : pa ≤ en) (hsg : SG sg pa en) : SG sg pa en := by
  first | assumption | omega | decide | exact sg_nI (by assumption) (by assumption)
theorem lf_X3_take_0_6 (a : Nat → Nat) (t : Nat → Nat) (en : Nat) (pa : Nat) (sg : Int32) (fa : Int32) (tu : Nat) (tb : Nat → Int32) (i0 : Nat) (hi0 : i0 < 16) (htu : tu ≤ 220) (hen : en ≤ 200) (hpa : pa ≤ en) (hsg : SG sg pa en) (fa_5 : Int32) : (pa ≤ (pa : Nat)) ∧ ((pa : Nat) ≤ en) ∧ (SG (sg : Int32) (pa : Nat) en) := by
  first | (refine ⟨?_, ?_, ?_⟩ <;> first | omega | assumption) | (refine ⟨?_, ?_, ?_, ?_⟩ <;> first | omega | assumption)
theorem lf_X3_take_0_7 (a : Nat → Nat) (t : Nat → Nat) (en : Nat) (pa : Nat) (sg : Int32) (fa : Int32) (tu : Nat) (tb : Nat → Int32) (i0 : Nat) (hi0 : i0 < 16) (htu : tu ≤ 220) (hen : en ≤ 200) (hpa : pa ≤ en) (hsg : SG sg pa en) (kk3 : Nat) (hkk3 : kk3 < 256) (lkk3 : pa < en) (skk3 : sHas i0 kk3 = true) : tu ≤ 220 := by
  first | assumption | omega | decide | exact sg_nI (by assumption) (by assumption)
theorem lf_X3_take_0_8 (a : Nat → Nat) (t : Nat → Nat) (en : Nat) (pa : Nat) (sg : Int32) (fa : Int32) (tu : Nat) (tb : Nat → Int32) (i0 : Nat) (hi0 : i0 < 16) (htu : tu ≤ 220) (hen : en ≤ 200) (hpa : pa ≤ en) (hsg : SG sg pa en) (kk3 : Nat) (hkk3 : kk3 < 256) (lkk3 : pa < en) (skk3 : sHas i0 kk3 = true) : en ≤ 200 := by
  first | assumption | omega | decide | exact sg_nI (by assumption) (by assumption)
theorem lf_X3_take_0_9 (a : Nat → Nat) (t : Nat → Nat) (en : Nat) (pa : Nat) (sg : Int32) (fa : Int32) (tu : Nat) (tb : Nat → Int32) (i0 : Nat) (hi0 : i0 < 16) (htu : tu ≤ 220) (hen : en ≤ 200) (hpa : pa ≤ en) (hsg : SG sg pa en) (kk3 : Nat) (hkk3 : kk3 < 256) (lkk3 : pa < en) (skk3 : sHas i0 kk3 = true) : pa ≤ en := by
  first | assumption | omega | decide | exact sg_nI (by assumption) (by assumption)
theorem lf_X3_take_0_10 (a : Nat → Nat) (t : Nat → Nat) (en : Nat) (pa : Nat) (sg : Int32) (fa : Int32) (tu : Nat) (tb : Nat → Int32) (i0 : Nat) (hi0 : i0 < 16) (htu : tu ≤ 220) (hen : en ≤ 200) (hpa : pa ≤ en) (hsg : SG sg pa en) (kk3 : Nat) (hkk3 : kk3 < 256) (lkk3 : pa < en) (skk3 : sHas i0 kk3 = true) : pa < en := by
  first | assumption | omega | decide | exact sg_nI (by assumption) (by assumption)
theorem lf_X3_take_0_13 (a : Nat → Nat) (t : Nat → Nat) (en : Nat) (pa : Nat) (sg : Int32) (fa : Int32) (tu : Nat) (tb : Nat → Int32) (i0 : Nat) (hi0 : i0 < 16) (htu : tu ≤ 220) (hen : en ≤ 200) (hpa : pa ≤ en) (hsg : SG sg pa en) (kk3 : Nat) (hkk3 : kk3 < 256) (lkk3 : pa < en) (skk3 : sHas i0 kk3 = true) (pa_12 : Nat) (sg_12 : Int32) (hz_12_0 : pa_12 = pa + 1) (hz_12_1 : pa_12 ≤ en) (hz_12_2 : SG sg_12 pa_12 en) : (pa ≤ (pa_12 : Nat)) ∧ ((pa_12 : Nat) ≤ en) ∧ (SG (sg_12 : Int32) (pa_12 : Nat) en) := by
  first | (refine ⟨?_, ?_, ?_⟩ <;> first | omega | assumption) | (refine ⟨?_, ?_, ?_, ?_⟩ <;> first | omega | assumption)
set_option maxHeartbeats 4000000 in
set_option maxRecDepth 100000 in
theorem c_X3_take_0 (l : Launch) (D : va_G) (cI cB cZ cJ : ClassId) (tx : List (ClassId × FieldType)) (adK adV : Nat → Nat) (a : Nat → Nat) (t : Nat → Nat) (en : Nat) (pa : Nat) (sg : Int32) (fa : Int32) (tu : Nat) (tb : Nat → Int32) (i0 : Nat) (hi0 : i0 < 16) (htu : tu ≤ 220) (hen : en ≤ 200) (hpa : pa ≤ en) (hsg : SG sg pa en) : WzV l D cI cB cZ cJ tx adK adV yX3_take cX3_take 2 none 5 0 0 [.ref (a 2), .ref (adK i0)] [(a 2, .inr (3, [.ref (a 1), .ref (t 0), .int (nI en), .int (nI pa), .int sg, .int 0, .int fa])), (a 1, .inr (8, [.ref (a 17), .int (nI tu)])), (a 17, .inl (cB, 220, .inl tb))] (fun (v : (Nat) × (Int32) × (Int32)) => (pa ≤ v.1) ∧ (v.1 ≤ en) ∧ (SG v.2.1 v.1 en)) (fun v => [(a 2, .inr (3, [.ref (a 1), .ref (t 0), .int (nI en), .int (nI (v.1)), .int v.2.1, .int 0, .int v.2.2])), (a 1, .inr (8, [.ref (a 17), .int (nI tu)])), (a 17, .inl (cB, 220, .inl tb))]) := by
  refine wzv_of2 (by decide +kernel) (Nat.le_of_ble_eq_true rfl) ?_
  intro p e s m below meth c A ls H locs hC hK hZ hP hD hA hS hl
  obtain ⟨hx, hb, hr, hml, hown, hts, hlocks, hin⟩ := hC
  have hown : s.vm.findClass RX3 = some m.cls := hown
  have hl : lv_has ls 2 [(0, .ref (a 2)), (1, .ref (adK i0))] := hl
  refine lv_aload_n hx hb dX3_take_0 rfl (lv_at hl 0 rfl) ?_
  refine lv_aload_n hx hb dX3_take_1 rfl (lv_at hl 1 rfl) ?_
  refine eRi (va_runV (As := [.ref (adK i0)]) (rest := []) ⟨hx, hb, hml, hown, hts⟩ (c_X3_isOneOf_0 l D cI cB cZ cJ tx adK adV a t en pa sg fa i0 (lf_X3_take_0_1 a t en pa sg fa tu tb i0 hi0 htu hen hpa hsg) (lf_X3_take_0_2 a t en pa sg fa tu tb i0 hi0 htu hen hpa hsg) H.size) (zV hts k_572 v_X3_isOneOf ⟨Nat.le_of_ble_eq_true rfl, Nat.le_of_ble_eq_true rfl⟩) (pV (pz (px1 hK hP 0 rfl) hZ hS (aR hS hA)) hK hP 0 rfl rfl) rfl rfl hl.1 rfl (lv_room (Nat.le_of_ble_eq_true rfl)) dX3_take_2 ⟨Nat.le_of_ble_eq_true rfl, Nat.le_of_ble_eq_true rfl⟩) hP hS hA (fun r_3 H locs wr_3 hP hS => ?_)
  rcases wr_3 with rfl | ⟨rfl, kk3, hkk3, rfl, lkk3, skk3⟩
  · refine lv_if_eq (tgt := 15) hx hb dX3_take_5 (by decide) (fun _ => ?_) (fun c => absurd c (by decide))
    refine lv_aload_n hx hb dX3_take_15 rfl (lv_at hl 0 rfl) ?_
    refine lv_iconst (v := 1) hx hb dX3_take_16 (by decide) ?_
    refine eWv (wr := [(a 1, .inr (8, [.ref (a 17), .int (nI tu)])), (a 17, .inl (cB, 220, .inl tb))]) (va_runV (As := [.int 1]) (rest := []) ⟨hx, hb, hml, hown, hts⟩ (c_X3_refuse_0 l D cI cB cZ cJ tx a t en pa sg fa 1 H.size) (zV hts k_662 v_X3_refuse ⟨Nat.le_of_ble_eq_true rfl, Nat.le_of_ble_eq_true rfl⟩) (pV (pxS hK hP hD [0] (by decide) rfl) hK hP 0 rfl rfl) rfl rfl hl.1 rfl (lv_room (Nat.le_of_ble_eq_true rfl)) dX3_take_17 ⟨Nat.le_of_ble_eq_true rfl, Nat.le_of_ble_eq_true rfl⟩) hP hD hS hA [0] [1, 2] rfl rfl (by decide) (by decide) (fun u_5 H locs wr_4 hP hD hS => ?_)
    obtain ⟨fa_5, rfl⟩ : ∃ z, z = u_5 := ⟨_, rfl⟩
    have hP : va_P D vwCl [(a 1, .inr (8, [.ref (a 17), .int (nI tu)])), (a 17, .inl (cB, 220, .inl tb)), (a 2, .inr (3, [.ref (a 1), .ref (t 0), .int (nI en), .int (nI pa), .int sg, .int 0, .int fa_5]))] H := hP
    have hD : va_D A [(a 1, .inr (8, [.ref (a 17), .int (nI tu)])), (a 17, .inl (cB, 220, .inl tb)), (a 2, .inr (3, [.ref (a 1), .ref (t 0), .int (nI en), .int (nI pa), .int sg, .int 0, .int fa_5]))] := hD
    have hP := hP.sub (ws' := [(a 2, .inr (3, [.ref (a 1), .ref (t 0), .int (nI en), .int (nI pa), .int sg, .int 0, .int fa_5])), (a 1, .inr (8, [.ref (a 17), .int (nI tu)])), (a 17, .inl (cB, 220, .inl tb))]) [2, 0, 1] rfl
    have hD := hD.sub (ws' := [(a 2, .inr (3, [.ref (a 1), .ref (t 0), .int (nI en), .int (nI pa), .int sg, .int 0, .int fa_5])), (a 1, .inr (8, [.ref (a 17), .int (nI tu)])), (a 17, .inl (cB, 220, .inl tb))]) [2, 0, 1] (by decide) rfl
    exact W.vret hx hb hr (fun tt9 ht hW => ⟨⟨((pa : Nat), (sg : Int32), (fa_5 : Int32)), rfl, (lf_X3_take_0_6 a t en pa sg fa tu tb i0 hi0 htu hen hpa hsg fa_5), ⟨by rw [ht]; exact hP, hD⟩⟩, hS.F ht⟩) hS.2.2 dX3_take_20 hlocks
  · refine lv_if_eq (tgt := 15) hx hb dX3_take_5 (by decide) (fun c => absurd c (by decide)) (fun _ => ?_)
    refine lv_aload_n hx hb dX3_take_8 rfl (lv_at hl 0 rfl) ?_
    refine eWv (wr := []) (va_runV (As := []) (rest := []) ⟨hx, hb, hml, hown, hts⟩ (c_X3_advance_0 l D cI cB cZ cJ tx a t en pa (nI kk3) fa tu tb (lf_X3_take_0_7 a t en pa (nI kk3) fa tu tb i0 hi0 htu hen hpa hsg kk3 hkk3 lkk3 skk3) (lf_X3_take_0_8 a t en pa (nI kk3) fa tu tb i0 hi0 htu hen hpa hsg kk3 hkk3 lkk3 skk3) (lf_X3_take_0_9 a t en pa (nI kk3) fa tu tb i0 hi0 htu hen hpa hsg kk3 hkk3 lkk3 skk3) (lf_X3_take_0_10 a t en pa (nI kk3) fa tu tb i0 hi0 htu hen hpa hsg kk3 hkk3 lkk3 skk3) H.size) (zV hts k_670 v_X3_advance ⟨Nat.le_of_ble_eq_true rfl, Nat.le_of_ble_eq_true rfl⟩) (pV (pxS hK hP hD [0, 1, 2] (by decide) rfl) hK hP 0 rfl rfl) rfl rfl hl.1 rfl (lv_room (Nat.le_of_ble_eq_true rfl)) dX3_take_9 ⟨Nat.le_of_ble_eq_true rfl, Nat.le_of_ble_eq_true rfl⟩) hP hD hS hA [0, 1, 2] [] rfl rfl (by decide) (by decide) (fun u_12 H locs wr_11 hP hD hS => ?_)
    obtain ⟨pa_12, sg_12⟩ := u_12
    have hz_12_0 : pa_12 = pa + 1 := wr_11.1
    have hz_12_1 : pa_12 ≤ en := wr_11.2.1
    have hz_12_2 : SG sg_12 pa_12 en := wr_11.2.2
    have hP : va_P D vwCl [(a 2, .inr (3, [.ref (a 1), .ref (t 0), .int (nI en), .int (nI pa_12), .int sg_12, .int 0, .int fa])), (a 1, .inr (8, [.ref (a 17), .int (nI tu)])), (a 17, .inl (cB, 220, .inl tb))] H := hP
    have hD : va_D A [(a 2, .inr (3, [.ref (a 1), .ref (t 0), .int (nI en), .int (nI pa_12), .int sg_12, .int 0, .int fa])), (a 1, .inr (8, [.ref (a 17), .int (nI tu)])), (a 17, .inl (cB, 220, .inl tb))] := hD
    refine lv_goto (tgt := 20) hx hb dX3_take_12 (by decide) ?_
    exact W.vret hx hb hr (fun tt9 ht hW => ⟨⟨((pa_12 : Nat), (sg_12 : Int32), (fa : Int32)), rfl, (lf_X3_take_0_13 a t en pa (nI kk3) fa tu tb i0 hi0 htu hen hpa hsg kk3 hkk3 lkk3 skk3 pa_12 sg_12 hz_12_0 hz_12_1 hz_12_2), ⟨by rw [ht]; exact hP, hD⟩⟩, hS.F ht⟩) hS.2.2 dX3_take_20 hlocks

theorem lf_X3_advance_1_3 (a : Nat → Nat) (t : Nat → Nat) (en : Nat) (pa : Nat) (sg : Int32) (fa : Int32) (tu : Nat) (tb : Nat → Int32) (htu : tu ≤ 220) (hen : en ≤ 200) (hpa : pa ≤ en) (hlt : pa < en) (c_1 : nI en ≤ nI (pa + 1)) : en ≤ (pa + 1) := by
  exact (nI_leI (a := en) (b := (pa + 1)) (by omega) (by omega)).mp c_1
theorem lf_X3_advance_1_4 (a : Nat → Nat) (t : Nat → Nat) (en : Nat) (pa : Nat) (sg : Int32) (fa : Int32) (tu : Nat) (tb : Nat → Int32) (htu : tu ≤ 220) (hen : en ≤ 200) (hpa : pa ≤ en) (hlt : pa < en) (c_1 : nI en ≤ nI (pa + 1)) (n_2 : en ≤ (pa + 1)) : (((pa + 1) : Nat) = pa + 1) ∧ (((pa + 1) : Nat) ≤ en) ∧ (SG ((-1) : Int32) ((pa + 1) : Nat) en) := by
  first
    | exact ⟨rfl, by omega, Or.inl rfl⟩
    | exact ⟨rfl, by omega, sg_mk (by assumption) (by omega)⟩
theorem lf_X3_advance_1_6 (a : Nat → Nat) (t : Nat → Nat) (en : Nat) (pa : Nat) (sg : Int32) (fa : Int32) (tu : Nat) (tb : Nat → Int32) (htu : tu ≤ 220) (hen : en ≤ 200) (hpa : pa ≤ en) (hlt : pa < en) (c_1 : ¬ nI en ≤ nI (pa + 1)) : (pa + 1) < en := by
  exact Nat.lt_of_not_le (fun q => c_1 ((nI_leI (a := en) (b := (pa + 1)) (by omega) (by omega)).mpr q))
theorem lf_X3_advance_1_7 (a : Nat → Nat) (t : Nat → Nat) (en : Nat) (pa : Nat) (sg : Int32) (fa : Int32) (tu : Nat) (tb : Nat → Int32) (htu : tu ≤ 220) (hen : en ≤ 200) (hpa : pa ≤ en) (hlt : pa < en) (c_1 : ¬ nI en ≤ nI (pa + 1)) (n_5 : (pa + 1) < en) : tu ≤ 220 := by
  first | assumption | omega | decide
theorem lf_X3_advance_1_9 (a : Nat → Nat) (t : Nat → Nat) (en : Nat) (pa : Nat) (sg : Int32) (fa : Int32) (tu : Nat) (tb : Nat → Int32) (htu : tu ≤ 220) (hen : en ≤ 200) (hpa : pa ≤ en) (hlt : pa < en) (c_1 : ¬ nI en ≤ nI (pa + 1)) (n_5 : (pa + 1) < en) (r_8 : Int32) (wr_8 : (r_8 = -1 ∨ ∃ k : Nat, k < 256 ∧ r_8 = nI k)) : (((pa + 1) : Nat) = pa + 1) ∧ (((pa + 1) : Nat) ≤ en) ∧ (SG (r_8 : Int32) ((pa + 1) : Nat) en) := by
  first
    | exact ⟨rfl, by omega, Or.inl rfl⟩
    | exact ⟨rfl, by omega, sg_mk (by assumption) (by omega)⟩
set_option maxHeartbeats 4000000 in
set_option maxRecDepth 100000 in
theorem c_X3_advance_1 (l : Launch) (D : va_G) (cI cB cZ cJ : ClassId) (tx : List (ClassId × FieldType)) (a : Nat → Nat) (t : Nat → Nat) (en : Nat) (pa : Nat) (sg : Int32) (fa : Int32) (tu : Nat) (tb : Nat → Int32) (htu : tu ≤ 220) (hen : en ≤ 200) (hpa : pa ≤ en) (hlt : pa < en) : WrV l D cI cB cZ cJ tx yX3_advance cX3_advance 1 none 1 0 0 [.ref (a 2)] [(a 2, .inr (3, [.ref (a 1), .ref (t 0), .int (nI en), .int (nI pa), .int sg, .int 1, .int fa])), (a 1, .inr (8, [.ref (a 17), .int (nI tu)])), (a 17, .inl (cB, 220, .inl tb))] (fun (v : (Nat) × (Int32)) => (v.1 = pa + 1) ∧ (v.1 ≤ en) ∧ (SG v.2 v.1 en)) (fun v => [(a 2, .inr (3, [.ref (a 1), .ref (t 0), .int (nI en), .int (nI (v.1)), .int v.2, .int 1, .int fa])), (a 1, .inr (8, [.ref (a 17), .int (nI tu)])), (a 17, .inl (cB, 220, .inl tb))]) := by
  refine wrv_of2 (by decide) (Nat.le_of_ble_eq_true rfl) ?_
  intro p e s m below meth c A ls H locs hC hK hP hD hA hS hl
  obtain ⟨hx, hb, hr, hml, hown, hts, hlocks, hin⟩ := hC
  have hown : s.vm.findClass RX3 = some m.cls := hown
  have hl : lv_has ls 1 [(0, .ref (a 2))] := hl
  refine lv_aload_n hx hb dX3_advance_0 rfl (lv_at hl 0 rfl) ?_
  refine lv_dup hx hb dX3_advance_1 rfl ?_
  refine va_get (D := D) (ci := 3) (v := .int (nI pa)) (C := RX3) (T := TX3) (N := 7) hx hb hts inT_X3 hown hK.1 hP 0 rfl rfl 3 (by decide) (hts _ k_168) (fun _ h9 => h9) rfl dX3_advance_2 ?_
  refine lv_iconst (v := 1) hx hb dX3_advance_5 (by decide) ?_
  refine lv_iadd hx hb dX3_advance_6 ?_
  refine lv_topv (y := nI (pa + 1)) (nI_add pa 1) ?_
  refine va_put (D := D) (ci := 3) (v := .int (nI (pa + 1))) (ty := .int) (C := RX3) (T := TX3) (N := 7) hx hb hts inT_X3 tyX3 tyX3_ok nmX3 hown hK.1 hP hD hS 0 rfl rfl 3 (by decide) (hts _ k_168) (fun _ h9 => h9) rfl (by decide +kernel) rfl rfl (Nat.le_of_ble_eq_true rfl) dX3_advance_7 (fun H locs hP hD hS => ?_)
  have hP : va_P D vwCl [(a 2, .inr (3, [.ref (a 1), .ref (t 0), .int (nI en), .int (nI (pa + 1)), .int sg, .int 1, .int fa])), (a 1, .inr (8, [.ref (a 17), .int (nI tu)])), (a 17, .inl (cB, 220, .inl tb))] H := hP
  have hD : va_D A [(a 2, .inr (3, [.ref (a 1), .ref (t 0), .int (nI en), .int (nI (pa + 1)), .int sg, .int 1, .int fa])), (a 1, .inr (8, [.ref (a 17), .int (nI tu)])), (a 17, .inl (cB, 220, .inl tb))] := hD
  refine lv_aload_n hx hb dX3_advance_10 rfl (lv_at hl 0 rfl) ?_
  refine lv_aload_n hx hb dX3_advance_11 rfl (lv_at hl 0 rfl) ?_
  refine va_get (D := D) (ci := 3) (v := .int (nI (pa + 1))) (C := RX3) (T := TX3) (N := 7) hx hb hts inT_X3 hown hK.1 hP 0 rfl rfl 3 (by decide) (hts _ k_168) (fun _ h9 => h9) rfl dX3_advance_12 ?_
  refine lv_aload_n hx hb dX3_advance_15 rfl (lv_at hl 0 rfl) ?_
  refine va_get (D := D) (ci := 3) (v := .int (nI en)) (C := RX3) (T := TX3) (N := 7) hx hb hts inT_X3 hown hK.1 hP 0 rfl rfl 2 (by decide) (hts _ k_167) (fun _ h9 => h9) rfl dX3_advance_16 ?_
  refine lv_icmp_ge (tgt := 36) hx hb dX3_advance_19 (by decide) (fun c_1 => ?_) (fun c_1 => ?_)
  · have n_2 : en ≤ (pa + 1) := (lf_X3_advance_1_3 a t en pa sg fa tu tb htu hen hpa hlt c_1)
    refine lv_iconst (v := (-1)) hx hb dX3_advance_36 (by decide) ?_
    refine va_put (D := D) (ci := 3) (v := .int (-1)) (ty := .int) (C := RX3) (T := TX3) (N := 7) hx hb hts inT_X3 tyX3 tyX3_ok nmX3 hown hK.1 hP hD hS 0 rfl rfl 4 (by decide) (hts _ k_169) (fun _ h9 => h9) rfl (by decide +kernel) rfl rfl (Nat.le_of_ble_eq_true rfl) dX3_advance_37 (fun H locs hP hD hS => ?_)
    have hP : va_P D vwCl [(a 2, .inr (3, [.ref (a 1), .ref (t 0), .int (nI en), .int (nI (pa + 1)), .int (-1), .int 1, .int fa])), (a 1, .inr (8, [.ref (a 17), .int (nI tu)])), (a 17, .inl (cB, 220, .inl tb))] H := hP
    have hD : va_D A [(a 2, .inr (3, [.ref (a 1), .ref (t 0), .int (nI en), .int (nI (pa + 1)), .int (-1), .int 1, .int fa])), (a 1, .inr (8, [.ref (a 17), .int (nI tu)])), (a 17, .inl (cB, 220, .inl tb))] := hD
    exact W.vret hx hb hr (fun tt9 ht hW => ⟨⟨(((pa + 1) : Nat), ((-1) : Int32)), rfl, (lf_X3_advance_1_4 a t en pa sg fa tu tb htu hen hpa hlt c_1 n_2), ⟨by rw [ht]; exact hP, hD⟩⟩, hS.F ht⟩) hS.2.2 dX3_advance_40 hlocks
  · have n_5 : (pa + 1) < en := (lf_X3_advance_1_6 a t en pa sg fa tu tb htu hen hpa hlt c_1)
    refine lv_aload_n hx hb dX3_advance_22 rfl (lv_at hl 0 rfl) ?_
    refine va_get (D := D) (ci := 3) (v := .ref (a 1)) (C := RX3) (T := TX3) (N := 7) hx hb hts inT_X3 hown hK.1 hP 0 rfl rfl 0 (by decide) (hts _ k_165) (fun _ h9 => h9) rfl dX3_advance_23 ?_
    refine lv_aload_n hx hb dX3_advance_26 rfl (lv_at hl 0 rfl) ?_
    refine va_get (D := D) (ci := 3) (v := .int (nI (pa + 1))) (C := RX3) (T := TX3) (N := 7) hx hb hts inT_X3 hown hK.1 hP 0 rfl rfl 3 (by decide) (hts _ k_168) (fun _ h9 => h9) rfl dX3_advance_27 ?_
    refine eRi (va_runV (As := [.int (nI (pa + 1))]) (rest := [.ref (a 2)]) ⟨hx, hb, hml, hown, hts⟩ (c_X8_byteAt_b l D cI cB cZ cJ tx a tu tb (nI (pa + 1)) (lf_X3_advance_1_7 a t en pa sg fa tu tb htu hen hpa hlt c_1 n_5) H.size) (zV hts k_564 v_X8_byteAt ⟨Nat.le_of_ble_eq_true rfl, Nat.le_of_ble_eq_true rfl⟩) (pV (pxS hK hP hD [1, 2] (by decide) rfl) hK hP 1 rfl rfl) rfl rfl hl.1 rfl (lv_room (Nat.le_of_ble_eq_true rfl)) dX3_advance_30 ⟨Nat.le_of_ble_eq_true rfl, Nat.le_of_ble_eq_true rfl⟩) hP hS hA (fun r_8 H locs wr_8 hP hS => ?_)
    refine lv_goto (tgt := 37) hx hb dX3_advance_33 (by decide) ?_
    refine va_put (D := D) (ci := 3) (v := .int r_8) (ty := .int) (C := RX3) (T := TX3) (N := 7) hx hb hts inT_X3 tyX3 tyX3_ok nmX3 hown hK.1 hP hD hS 0 rfl rfl 4 (by decide) (hts _ k_169) (fun _ h9 => h9) rfl (by decide +kernel) rfl rfl (Nat.le_of_ble_eq_true rfl) dX3_advance_37 (fun H locs hP hD hS => ?_)
    have hP : va_P D vwCl [(a 2, .inr (3, [.ref (a 1), .ref (t 0), .int (nI en), .int (nI (pa + 1)), .int r_8, .int 1, .int fa])), (a 1, .inr (8, [.ref (a 17), .int (nI tu)])), (a 17, .inl (cB, 220, .inl tb))] H := hP
    have hD : va_D A [(a 2, .inr (3, [.ref (a 1), .ref (t 0), .int (nI en), .int (nI (pa + 1)), .int r_8, .int 1, .int fa])), (a 1, .inr (8, [.ref (a 17), .int (nI tu)])), (a 17, .inl (cB, 220, .inl tb))] := hD
    exact W.vret hx hb hr (fun tt9 ht hW => ⟨⟨(((pa + 1) : Nat), (r_8 : Int32)), rfl, (lf_X3_advance_1_9 a t en pa sg fa tu tb htu hen hpa hlt c_1 n_5 r_8 wr_8), ⟨by rw [ht]; exact hP, hD⟩⟩, hS.F ht⟩) hS.2.2 dX3_advance_40 hlocks

set_option maxHeartbeats 4000000 in
set_option maxRecDepth 100000 in
theorem c_X3_refuse_1 (l : Launch) (D : va_G) (cI cB cZ cJ : ClassId) (tx : List (ClassId × FieldType)) (a : Nat → Nat) (t : Nat → Nat) (en : Nat) (pa : Nat) (sg : Int32) (fa : Int32) (n1 : Int32) : WrV l D cI cB cZ cJ tx yX3_refuse cX3_refuse 2 none 0 0 0 [.ref (a 2), .int n1] [(a 2, .inr (3, [.ref (a 1), .ref (t 0), .int (nI en), .int (nI pa), .int sg, .int 1, .int fa]))] (fun (v : (Int32)) => True) (fun v => [(a 2, .inr (3, [.ref (a 1), .ref (t 0), .int (nI en), .int (nI pa), .int sg, .int 1, .int v]))]) := by
  refine wrv_of2 (by decide) (Nat.le_of_ble_eq_true rfl) ?_
  intro p e s m below meth c A ls H locs hC hK hP hD hA hS hl
  obtain ⟨hx, hb, hr, hml, hown, hts, hlocks, hin⟩ := hC
  have hown : s.vm.findClass RX3 = some m.cls := hown
  have hl : lv_has ls 2 [(0, .ref (a 2)), (1, .int n1)] := hl
  refine lv_aload_n hx hb dX3_refuse_0 rfl (lv_at hl 0 rfl) ?_
  refine va_get (D := D) (ci := 3) (v := .int fa) (C := RX3) (T := TX3) (N := 7) hx hb hts inT_X3 hown hK.1 hP 0 rfl rfl 6 (by decide) (hts _ k_171) (fun _ h9 => h9) rfl dX3_refuse_1 ?_
  refine lv_if_ne (tgt := 12) hx hb dX3_refuse_4 (by decide) (fun c_1 => ?_) (fun c_1 => ?_)
  · exact W.vret hx hb hr (fun tt9 ht hW => ⟨⟨((fa : Int32)), rfl, trivial, ⟨by rw [ht]; exact hP, hD⟩⟩, hS.F ht⟩) hS.2.2 dX3_refuse_12 hlocks
  · refine lv_aload_n hx hb dX3_refuse_7 rfl (lv_at hl 0 rfl) ?_
    refine lv_iload_n hx hb dX3_refuse_8 rfl (lv_at hl 1 rfl) ?_
    refine va_put (D := D) (ci := 3) (v := .int n1) (ty := .int) (C := RX3) (T := TX3) (N := 7) hx hb hts inT_X3 tyX3 tyX3_ok nmX3 hown hK.1 hP hD hS 0 rfl rfl 6 (by decide) (hts _ k_171) (fun _ h9 => h9) rfl (by decide +kernel) rfl rfl (Nat.le_of_ble_eq_true rfl) dX3_refuse_9 (fun H locs hP hD hS => ?_)
    have hP : va_P D vwCl [(a 2, .inr (3, [.ref (a 1), .ref (t 0), .int (nI en), .int (nI pa), .int sg, .int 1, .int n1]))] H := hP
    have hD : va_D A [(a 2, .inr (3, [.ref (a 1), .ref (t 0), .int (nI en), .int (nI pa), .int sg, .int 1, .int n1]))] := hD
    exact W.vret hx hb hr (fun tt9 ht hW => ⟨⟨((n1 : Int32)), rfl, trivial, ⟨by rw [ht]; exact hP, hD⟩⟩, hS.F ht⟩) hS.2.2 dX3_refuse_12 hlocks

theorem lf_X3_isOneOf_1_2 (a : Nat → Nat) (t : Nat → Nat) (en : Nat) (pa : Nat) (sg : Int32) (fa : Int32) (i0 : Nat) (hi0 : i0 < 16) (hsg : SG sg pa en) (c_1 : ¬ fa = 0) : ((0 : Int32) = 0) ∨ ((0 : Int32) = 1 ∧ ∃ k : Nat, k < 256 ∧ sg = nI k ∧ pa < en ∧ sHas i0 k = true) := by
  first
    | exact Or.inl rfl
    | exact Or.inr ⟨rfl, kq, hkq, by assumption, lkq, has_use (by assumption) (by assumption)⟩
theorem lf_X3_isOneOf_1_4 (a : Nat → Nat) (t : Nat → Nat) (en : Nat) (pa : Nat) (sg : Int32) (fa : Int32) (i0 : Nat) (hi0 : i0 < 16) (hsg : SG sg pa en) (c_1 : fa = 0) (c_3 : sg < 0) : ((0 : Int32) = 0) ∨ ((0 : Int32) = 1 ∧ ∃ k : Nat, k < 256 ∧ sg = nI k ∧ pa < en ∧ sHas i0 k = true) := by
  first
    | exact Or.inl rfl
    | exact Or.inr ⟨rfl, kq, hkq, by assumption, lkq, has_use (by assumption) (by assumption)⟩
theorem lf_X3_isOneOf_1_5 (a : Nat → Nat) (t : Nat → Nat) (en : Nat) (pa : Nat) (sg : Int32) (fa : Int32) (i0 : Nat) (hi0 : i0 < 16) (hsg : SG sg pa en) (c_1 : fa = 0) (c_3 : ¬ sg < 0) (kq : Nat) (hkq : kq < 256) (ekq : sg = nI kq) (lkq : pa < en) : kq < 65536 := by
  omega
theorem lf_X3_isOneOf_1_6 (a : Nat → Nat) (t : Nat → Nat) (en : Nat) (pa : Nat) (sg : Int32) (fa : Int32) (i0 : Nat) (hi0 : i0 < 16) (hsg : SG sg pa en) (c_1 : fa = 0) (c_3 : ¬ sg < 0) (kq : Nat) (hkq : kq < 256) (ekq : sg = nI kq) (lkq : pa < en) : i0 < 16 := by
  first | assumption | omega | decide | exact sg_nI (by assumption) (by assumption)
theorem lf_X3_isOneOf_1_7 (a : Nat → Nat) (t : Nat → Nat) (en : Nat) (pa : Nat) (sg : Int32) (fa : Int32) (i0 : Nat) (hi0 : i0 < 16) (hsg : SG sg pa en) (c_1 : fa = 0) (c_3 : ¬ sg < 0) (kq : Nat) (hkq : kq < 256) (ekq : sg = nI kq) (lkq : pa < en) : kq < 256 := by
  first | assumption | omega | decide | exact sg_nI (by assumption) (by assumption)
theorem lf_X3_isOneOf_1_8 (a : Nat → Nat) (t : Nat → Nat) (en : Nat) (pa : Nat) (sg : Int32) (fa : Int32) (i0 : Nat) (hi0 : i0 < 16) (hsg : SG sg pa en) (c_1 : fa = 0) (c_3 : ¬ sg < 0) (kq : Nat) (hkq : kq < 256) (ekq : sg = nI kq) (lkq : pa < en) : i0 < 16 := by
  first | omega | assumption
theorem lf_X3_isOneOf_1_11 (a : Nat → Nat) (t : Nat → Nat) (en : Nat) (pa : Nat) (sg : Int32) (fa : Int32) (i0 : Nat) (hi0 : i0 < 16) (hsg : SG sg pa en) (c_1 : fa = 0) (c_3 : ¬ sg < 0) (kq : Nat) (hkq : kq < 256) (ekq : sg = nI kq) (lkq : pa < en) (r_9 : Int32) (wr_9 : 0 ≤ r_9 → sHas i0 kq = true) (c_10 : r_9 < 0) : ((0 : Int32) = 0) ∨ ((0 : Int32) = 1 ∧ ∃ k : Nat, k < 256 ∧ sg = nI k ∧ pa < en ∧ sHas i0 k = true) := by
  first
    | exact Or.inl rfl
    | exact Or.inr ⟨rfl, kq, hkq, by assumption, lkq, has_use (by assumption) (by assumption)⟩
theorem lf_X3_isOneOf_1_12 (a : Nat → Nat) (t : Nat → Nat) (en : Nat) (pa : Nat) (sg : Int32) (fa : Int32) (i0 : Nat) (hi0 : i0 < 16) (hsg : SG sg pa en) (c_1 : fa = 0) (c_3 : ¬ sg < 0) (kq : Nat) (hkq : kq < 256) (ekq : sg = nI kq) (lkq : pa < en) (r_9 : Int32) (wr_9 : 0 ≤ r_9 → sHas i0 kq = true) (c_10 : ¬ r_9 < 0) : ((1 : Int32) = 0) ∨ ((1 : Int32) = 1 ∧ ∃ k : Nat, k < 256 ∧ sg = nI k ∧ pa < en ∧ sHas i0 k = true) := by
  first
    | exact Or.inl rfl
    | exact Or.inr ⟨rfl, kq, hkq, by assumption, lkq, has_use (by assumption) (by assumption)⟩
set_option maxHeartbeats 4000000 in
set_option maxRecDepth 100000 in
theorem c_X3_isOneOf_1 (l : Launch) (D : va_G) (cI cB cZ cJ : ClassId) (tx : List (ClassId × FieldType)) (adK adV : Nat → Nat) (a : Nat → Nat) (t : Nat → Nat) (en : Nat) (pa : Nat) (sg : Int32) (fa : Int32) (i0 : Nat) (hi0 : i0 < 16) (hsg : SG sg pa en) : RzI l D cI cB cZ cJ tx adK adV yX3_isOneOf cX3_isOneOf 2 (some .boolean) 4 [.ref (a 2), .ref (adK i0)] [(a 2, .inr (3, [.ref (a 1), .ref (t 0), .int (nI en), .int (nI pa), .int sg, .int 1, .int fa]))] (fun r => (r = 0) ∨ (r = 1 ∧ ∃ k : Nat, k < 256 ∧ sg = nI k ∧ pa < en ∧ sHas i0 k = true)) := by
  refine rzi_of2 (by decide +kernel) (Nat.le_of_ble_eq_true rfl) ?_
  intro p e s m below meth c A ls H locs hC hK hZ hP hD hA hS hl
  obtain ⟨hx, hb, hr, hml, hown, hts, hlocks, hin⟩ := hC
  have hown : s.vm.findClass RX3 = some m.cls := hown
  have hl : lv_has ls 2 [(0, .ref (a 2)), (1, .ref (adK i0))] := hl
  refine lv_aload_n hx hb dX3_isOneOf_0 rfl (lv_at hl 0 rfl) ?_
  refine va_get (D := D) (ci := 3) (v := .int fa) (C := RX3) (T := TX3) (N := 7) hx hb hts inT_X3 hown hK.1 hP 0 rfl rfl 6 (by decide) (hts _ k_171) (fun _ h9 => h9) rfl dX3_isOneOf_1 ?_
  refine lv_if_ne (tgt := 30) hx hb dX3_isOneOf_4 (by decide) (fun c_1 => ?_) (fun c_1 => ?_)
  · refine lv_iconst (v := 0) hx hb dX3_isOneOf_30 (by decide) ?_
    exact W.zret (v := 0) hx hb hr (by decide) (fun tt9 ht hW => ⟨⟨(0 : Int32), (), rfl, (lf_X3_isOneOf_1_2 a t en pa sg fa i0 hi0 hsg c_1), trivial⟩, hS.F ht⟩) hS.2.2 dX3_isOneOf_31 hlocks
  · refine lv_aload_n hx hb dX3_isOneOf_7 rfl (lv_at hl 0 rfl) ?_
    refine va_get (D := D) (ci := 3) (v := .int sg) (C := RX3) (T := TX3) (N := 7) hx hb hts inT_X3 hown hK.1 hP 0 rfl rfl 4 (by decide) (hts _ k_169) (fun _ h9 => h9) rfl dX3_isOneOf_8 ?_
    refine lv_if_lt (tgt := 30) hx hb dX3_isOneOf_11 (by decide) (fun c_3 => ?_) (fun c_3 => ?_)
    · refine lv_iconst (v := 0) hx hb dX3_isOneOf_30 (by decide) ?_
      exact W.zret (v := 0) hx hb hr (by decide) (fun tt9 ht hW => ⟨⟨(0 : Int32), (), rfl, (lf_X3_isOneOf_1_4 a t en pa sg fa i0 hi0 hsg c_1 c_3), trivial⟩, hS.F ht⟩) hS.2.2 dX3_isOneOf_31 hlocks
    · obtain ⟨kq, hkq, ekq, lkq⟩ := sg_of hsg c_3
      subst ekq
      refine lv_aload_n hx hb dX3_isOneOf_14 rfl (lv_at hl 1 rfl) ?_
      refine lv_aload_n hx hb dX3_isOneOf_15 rfl (lv_at hl 0 rfl) ?_
      refine va_get (D := D) (ci := 3) (v := .int (nI kq)) (C := RX3) (T := TX3) (N := 7) hx hb hts inT_X3 hown hK.1 hP 0 rfl rfl 4 (by decide) (hts _ k_169) (fun _ h9 => h9) rfl dX3_isOneOf_16 ?_
      refine lv_i2c hx hb dX3_isOneOf_19 (i2c_nI (lf_X3_isOneOf_1_5 a t en pa (nI kq) fa i0 hi0 hsg c_1 c_3 kq hkq rfl lkq)) ?_
      refine eRi (va_runV (As := [.int (nI kq)]) (rest := []) ⟨hx, hb, hml, hown, hts⟩ (c_J0_indexOf1 l D cI cB cZ cJ tx adK adV i0 kq (lf_X3_isOneOf_1_6 a t en pa (nI kq) fa i0 hi0 hsg c_1 c_3 kq hkq rfl lkq) (lf_X3_isOneOf_1_7 a t en pa (nI kq) fa i0 hi0 hsg c_1 c_3 kq hkq rfl lkq) H.size) (zV hts k_576 v_J0_indexOf_0f7a4 ⟨Nat.le_of_ble_eq_true rfl, Nat.le_of_ble_eq_true rfl⟩) (pVS (pz (px0 hK) hZ hS (aR hS hA)) hZ (lf_X3_isOneOf_1_8 a t en pa (nI kq) fa i0 hi0 hsg c_1 c_3 kq hkq rfl lkq) hS) rfl rfl hl.1 rfl (lv_room (Nat.le_of_ble_eq_true rfl)) dX3_isOneOf_20 ⟨Nat.le_of_ble_eq_true rfl, Nat.le_of_ble_eq_true rfl⟩) hP hS hA (fun r_9 H locs wr_9 hP hS => ?_)
      refine lv_if_lt (tgt := 30) hx hb dX3_isOneOf_23 (by decide) (fun c_10 => ?_) (fun c_10 => ?_)
      · refine lv_iconst (v := 0) hx hb dX3_isOneOf_30 (by decide) ?_
        exact W.zret (v := 0) hx hb hr (by decide) (fun tt9 ht hW => ⟨⟨(0 : Int32), (), rfl, (lf_X3_isOneOf_1_11 a t en pa (nI kq) fa i0 hi0 hsg c_1 c_3 kq hkq rfl lkq r_9 wr_9 c_10), trivial⟩, hS.F ht⟩) hS.2.2 dX3_isOneOf_31 hlocks
      · refine lv_iconst (v := 1) hx hb dX3_isOneOf_26 (by decide) ?_
        refine lv_goto (tgt := 31) hx hb dX3_isOneOf_27 (by decide) ?_
        exact W.zret (v := 1) hx hb hr (by decide) (fun tt9 ht hW => ⟨⟨(1 : Int32), (), rfl, (lf_X3_isOneOf_1_12 a t en pa (nI kq) fa i0 hi0 hsg c_1 c_3 kq hkq rfl lkq r_9 wr_9 c_10), trivial⟩, hS.F ht⟩) hS.2.2 dX3_isOneOf_31 hlocks

theorem lf_X3_take_1_1 (a : Nat → Nat) (t : Nat → Nat) (en : Nat) (pa : Nat) (sg : Int32) (fa : Int32) (tu : Nat) (tb : Nat → Int32) (i0 : Nat) (hi0 : i0 < 16) (htu : tu ≤ 220) (hen : en ≤ 200) (hpa : pa ≤ en) (hsg : SG sg pa en) : i0 < 16 := by
  first | assumption | omega | decide | exact sg_nI (by assumption) (by assumption)
theorem lf_X3_take_1_2 (a : Nat → Nat) (t : Nat → Nat) (en : Nat) (pa : Nat) (sg : Int32) (fa : Int32) (tu : Nat) (tb : Nat → Int32) (i0 : Nat) (hi0 : i0 < 16) (htu : tu ≤ 220) (hen : en ≤ 200) (hpa : pa ≤ en) (hsg : SG sg pa en) : SG sg pa en := by
  first | assumption | omega | decide | exact sg_nI (by assumption) (by assumption)
theorem lf_X3_take_1_6 (a : Nat → Nat) (t : Nat → Nat) (en : Nat) (pa : Nat) (sg : Int32) (fa : Int32) (tu : Nat) (tb : Nat → Int32) (i0 : Nat) (hi0 : i0 < 16) (htu : tu ≤ 220) (hen : en ≤ 200) (hpa : pa ≤ en) (hsg : SG sg pa en) (fa_5 : Int32) : (pa ≤ (pa : Nat)) ∧ ((pa : Nat) ≤ en) ∧ (SG (sg : Int32) (pa : Nat) en) := by
  first | (refine ⟨?_, ?_, ?_⟩ <;> first | omega | assumption) | (refine ⟨?_, ?_, ?_, ?_⟩ <;> first | omega | assumption)
theorem lf_X3_take_1_7 (a : Nat → Nat) (t : Nat → Nat) (en : Nat) (pa : Nat) (sg : Int32) (fa : Int32) (tu : Nat) (tb : Nat → Int32) (i0 : Nat) (hi0 : i0 < 16) (htu : tu ≤ 220) (hen : en ≤ 200) (hpa : pa ≤ en) (hsg : SG sg pa en) (kk3 : Nat) (hkk3 : kk3 < 256) (lkk3 : pa < en) (skk3 : sHas i0 kk3 = true) : tu ≤ 220 := by
  first | assumption | omega | decide | exact sg_nI (by assumption) (by assumption)
theorem lf_X3_take_1_8 (a : Nat → Nat) (t : Nat → Nat) (en : Nat) (pa : Nat) (sg : Int32) (fa : Int32) (tu : Nat) (tb : Nat → Int32) (i0 : Nat) (hi0 : i0 < 16) (htu : tu ≤ 220) (hen : en ≤ 200) (hpa : pa ≤ en) (hsg : SG sg pa en) (kk3 : Nat) (hkk3 : kk3 < 256) (lkk3 : pa < en) (skk3 : sHas i0 kk3 = true) : en ≤ 200 := by
  first | assumption | omega | decide | exact sg_nI (by assumption) (by assumption)
theorem lf_X3_take_1_9 (a : Nat → Nat) (t : Nat → Nat) (en : Nat) (pa : Nat) (sg : Int32) (fa : Int32) (tu : Nat) (tb : Nat → Int32) (i0 : Nat) (hi0 : i0 < 16) (htu : tu ≤ 220) (hen : en ≤ 200) (hpa : pa ≤ en) (hsg : SG sg pa en) (kk3 : Nat) (hkk3 : kk3 < 256) (lkk3 : pa < en) (skk3 : sHas i0 kk3 = true) : pa ≤ en := by
  first | assumption | omega | decide | exact sg_nI (by assumption) (by assumption)
theorem lf_X3_take_1_10 (a : Nat → Nat) (t : Nat → Nat) (en : Nat) (pa : Nat) (sg : Int32) (fa : Int32) (tu : Nat) (tb : Nat → Int32) (i0 : Nat) (hi0 : i0 < 16) (htu : tu ≤ 220) (hen : en ≤ 200) (hpa : pa ≤ en) (hsg : SG sg pa en) (kk3 : Nat) (hkk3 : kk3 < 256) (lkk3 : pa < en) (skk3 : sHas i0 kk3 = true) : pa < en := by
  first | assumption | omega | decide | exact sg_nI (by assumption) (by assumption)
theorem lf_X3_take_1_13 (a : Nat → Nat) (t : Nat → Nat) (en : Nat) (pa : Nat) (sg : Int32) (fa : Int32) (tu : Nat) (tb : Nat → Int32) (i0 : Nat) (hi0 : i0 < 16) (htu : tu ≤ 220) (hen : en ≤ 200) (hpa : pa ≤ en) (hsg : SG sg pa en) (kk3 : Nat) (hkk3 : kk3 < 256) (lkk3 : pa < en) (skk3 : sHas i0 kk3 = true) (pa_12 : Nat) (sg_12 : Int32) (hz_12_0 : pa_12 = pa + 1) (hz_12_1 : pa_12 ≤ en) (hz_12_2 : SG sg_12 pa_12 en) : (pa ≤ (pa_12 : Nat)) ∧ ((pa_12 : Nat) ≤ en) ∧ (SG (sg_12 : Int32) (pa_12 : Nat) en) := by
  first | (refine ⟨?_, ?_, ?_⟩ <;> first | omega | assumption) | (refine ⟨?_, ?_, ?_, ?_⟩ <;> first | omega | assumption)
set_option maxHeartbeats 4000000 in
set_option maxRecDepth 100000 in
theorem c_X3_take_1 (l : Launch) (D : va_G) (cI cB cZ cJ : ClassId) (tx : List (ClassId × FieldType)) (adK adV : Nat → Nat) (a : Nat → Nat) (t : Nat → Nat) (en : Nat) (pa : Nat) (sg : Int32) (fa : Int32) (tu : Nat) (tb : Nat → Int32) (i0 : Nat) (hi0 : i0 < 16) (htu : tu ≤ 220) (hen : en ≤ 200) (hpa : pa ≤ en) (hsg : SG sg pa en) : WzV l D cI cB cZ cJ tx adK adV yX3_take cX3_take 2 none 5 0 0 [.ref (a 2), .ref (adK i0)] [(a 2, .inr (3, [.ref (a 1), .ref (t 0), .int (nI en), .int (nI pa), .int sg, .int 1, .int fa])), (a 1, .inr (8, [.ref (a 17), .int (nI tu)])), (a 17, .inl (cB, 220, .inl tb))] (fun (v : (Nat) × (Int32) × (Int32)) => (pa ≤ v.1) ∧ (v.1 ≤ en) ∧ (SG v.2.1 v.1 en)) (fun v => [(a 2, .inr (3, [.ref (a 1), .ref (t 0), .int (nI en), .int (nI (v.1)), .int v.2.1, .int 1, .int v.2.2])), (a 1, .inr (8, [.ref (a 17), .int (nI tu)])), (a 17, .inl (cB, 220, .inl tb))]) := by
  refine wzv_of2 (by decide +kernel) (Nat.le_of_ble_eq_true rfl) ?_
  intro p e s m below meth c A ls H locs hC hK hZ hP hD hA hS hl
  obtain ⟨hx, hb, hr, hml, hown, hts, hlocks, hin⟩ := hC
  have hown : s.vm.findClass RX3 = some m.cls := hown
  have hl : lv_has ls 2 [(0, .ref (a 2)), (1, .ref (adK i0))] := hl
  refine lv_aload_n hx hb dX3_take_0 rfl (lv_at hl 0 rfl) ?_
  refine lv_aload_n hx hb dX3_take_1 rfl (lv_at hl 1 rfl) ?_
  refine eRi (va_runV (As := [.ref (adK i0)]) (rest := []) ⟨hx, hb, hml, hown, hts⟩ (c_X3_isOneOf_1 l D cI cB cZ cJ tx adK adV a t en pa sg fa i0 (lf_X3_take_1_1 a t en pa sg fa tu tb i0 hi0 htu hen hpa hsg) (lf_X3_take_1_2 a t en pa sg fa tu tb i0 hi0 htu hen hpa hsg) H.size) (zV hts k_572 v_X3_isOneOf ⟨Nat.le_of_ble_eq_true rfl, Nat.le_of_ble_eq_true rfl⟩) (pV (pz (px1 hK hP 0 rfl) hZ hS (aR hS hA)) hK hP 0 rfl rfl) rfl rfl hl.1 rfl (lv_room (Nat.le_of_ble_eq_true rfl)) dX3_take_2 ⟨Nat.le_of_ble_eq_true rfl, Nat.le_of_ble_eq_true rfl⟩) hP hS hA (fun r_3 H locs wr_3 hP hS => ?_)
  rcases wr_3 with rfl | ⟨rfl, kk3, hkk3, rfl, lkk3, skk3⟩
  · refine lv_if_eq (tgt := 15) hx hb dX3_take_5 (by decide) (fun _ => ?_) (fun c => absurd c (by decide))
    refine lv_aload_n hx hb dX3_take_15 rfl (lv_at hl 0 rfl) ?_
    refine lv_iconst (v := 1) hx hb dX3_take_16 (by decide) ?_
    refine eWv (wr := [(a 1, .inr (8, [.ref (a 17), .int (nI tu)])), (a 17, .inl (cB, 220, .inl tb))]) (va_runV (As := [.int 1]) (rest := []) ⟨hx, hb, hml, hown, hts⟩ (c_X3_refuse_1 l D cI cB cZ cJ tx a t en pa sg fa 1 H.size) (zV hts k_662 v_X3_refuse ⟨Nat.le_of_ble_eq_true rfl, Nat.le_of_ble_eq_true rfl⟩) (pV (pxS hK hP hD [0] (by decide) rfl) hK hP 0 rfl rfl) rfl rfl hl.1 rfl (lv_room (Nat.le_of_ble_eq_true rfl)) dX3_take_17 ⟨Nat.le_of_ble_eq_true rfl, Nat.le_of_ble_eq_true rfl⟩) hP hD hS hA [0] [1, 2] rfl rfl (by decide) (by decide) (fun u_5 H locs wr_4 hP hD hS => ?_)
    obtain ⟨fa_5, rfl⟩ : ∃ z, z = u_5 := ⟨_, rfl⟩
    have hP : va_P D vwCl [(a 1, .inr (8, [.ref (a 17), .int (nI tu)])), (a 17, .inl (cB, 220, .inl tb)), (a 2, .inr (3, [.ref (a 1), .ref (t 0), .int (nI en), .int (nI pa), .int sg, .int 1, .int fa_5]))] H := hP
    have hD : va_D A [(a 1, .inr (8, [.ref (a 17), .int (nI tu)])), (a 17, .inl (cB, 220, .inl tb)), (a 2, .inr (3, [.ref (a 1), .ref (t 0), .int (nI en), .int (nI pa), .int sg, .int 1, .int fa_5]))] := hD
    have hP := hP.sub (ws' := [(a 2, .inr (3, [.ref (a 1), .ref (t 0), .int (nI en), .int (nI pa), .int sg, .int 1, .int fa_5])), (a 1, .inr (8, [.ref (a 17), .int (nI tu)])), (a 17, .inl (cB, 220, .inl tb))]) [2, 0, 1] rfl
    have hD := hD.sub (ws' := [(a 2, .inr (3, [.ref (a 1), .ref (t 0), .int (nI en), .int (nI pa), .int sg, .int 1, .int fa_5])), (a 1, .inr (8, [.ref (a 17), .int (nI tu)])), (a 17, .inl (cB, 220, .inl tb))]) [2, 0, 1] (by decide) rfl
    exact W.vret hx hb hr (fun tt9 ht hW => ⟨⟨((pa : Nat), (sg : Int32), (fa_5 : Int32)), rfl, (lf_X3_take_1_6 a t en pa sg fa tu tb i0 hi0 htu hen hpa hsg fa_5), ⟨by rw [ht]; exact hP, hD⟩⟩, hS.F ht⟩) hS.2.2 dX3_take_20 hlocks
  · refine lv_if_eq (tgt := 15) hx hb dX3_take_5 (by decide) (fun c => absurd c (by decide)) (fun _ => ?_)
    refine lv_aload_n hx hb dX3_take_8 rfl (lv_at hl 0 rfl) ?_
    refine eWv (wr := []) (va_runV (As := []) (rest := []) ⟨hx, hb, hml, hown, hts⟩ (c_X3_advance_1 l D cI cB cZ cJ tx a t en pa (nI kk3) fa tu tb (lf_X3_take_1_7 a t en pa (nI kk3) fa tu tb i0 hi0 htu hen hpa hsg kk3 hkk3 lkk3 skk3) (lf_X3_take_1_8 a t en pa (nI kk3) fa tu tb i0 hi0 htu hen hpa hsg kk3 hkk3 lkk3 skk3) (lf_X3_take_1_9 a t en pa (nI kk3) fa tu tb i0 hi0 htu hen hpa hsg kk3 hkk3 lkk3 skk3) (lf_X3_take_1_10 a t en pa (nI kk3) fa tu tb i0 hi0 htu hen hpa hsg kk3 hkk3 lkk3 skk3) H.size) (zV hts k_670 v_X3_advance ⟨Nat.le_of_ble_eq_true rfl, Nat.le_of_ble_eq_true rfl⟩) (pV (pxS hK hP hD [0, 1, 2] (by decide) rfl) hK hP 0 rfl rfl) rfl rfl hl.1 rfl (lv_room (Nat.le_of_ble_eq_true rfl)) dX3_take_9 ⟨Nat.le_of_ble_eq_true rfl, Nat.le_of_ble_eq_true rfl⟩) hP hD hS hA [0, 1, 2] [] rfl rfl (by decide) (by decide) (fun u_12 H locs wr_11 hP hD hS => ?_)
    obtain ⟨pa_12, sg_12⟩ := u_12
    have hz_12_0 : pa_12 = pa + 1 := wr_11.1
    have hz_12_1 : pa_12 ≤ en := wr_11.2.1
    have hz_12_2 : SG sg_12 pa_12 en := wr_11.2.2
    have hP : va_P D vwCl [(a 2, .inr (3, [.ref (a 1), .ref (t 0), .int (nI en), .int (nI pa_12), .int sg_12, .int 1, .int fa])), (a 1, .inr (8, [.ref (a 17), .int (nI tu)])), (a 17, .inl (cB, 220, .inl tb))] H := hP
    have hD : va_D A [(a 2, .inr (3, [.ref (a 1), .ref (t 0), .int (nI en), .int (nI pa_12), .int sg_12, .int 1, .int fa])), (a 1, .inr (8, [.ref (a 17), .int (nI tu)])), (a 17, .inl (cB, 220, .inl tb))] := hD
    refine lv_goto (tgt := 20) hx hb dX3_take_12 (by decide) ?_
    exact W.vret hx hb hr (fun tt9 ht hW => ⟨⟨((pa_12 : Nat), (sg_12 : Int32), (fa : Int32)), rfl, (lf_X3_take_1_13 a t en pa (nI kk3) fa tu tb i0 hi0 htu hen hpa hsg kk3 hkk3 lkk3 skk3 pa_12 sg_12 hz_12_0 hz_12_1 hz_12_2), ⟨by rw [ht]; exact hP, hD⟩⟩, hS.F ht⟩) hS.2.2 dX3_take_20 hlocks

theorem lf_X3_advance_2_3 (a : Nat → Nat) (t : Nat → Nat) (en : Nat) (pa : Nat) (sg : Int32) (fa : Int32) (tu : Nat) (tb : Nat → Int32) (htu : tu ≤ 220) (hen : en ≤ 200) (hpa : pa ≤ en) (hlt : pa < en) (c_1 : nI en ≤ nI (pa + 1)) : en ≤ (pa + 1) := by
  exact (nI_leI (a := en) (b := (pa + 1)) (by omega) (by omega)).mp c_1
theorem lf_X3_advance_2_4 (a : Nat → Nat) (t : Nat → Nat) (en : Nat) (pa : Nat) (sg : Int32) (fa : Int32) (tu : Nat) (tb : Nat → Int32) (htu : tu ≤ 220) (hen : en ≤ 200) (hpa : pa ≤ en) (hlt : pa < en) (c_1 : nI en ≤ nI (pa + 1)) (n_2 : en ≤ (pa + 1)) : (((pa + 1) : Nat) = pa + 1) ∧ (((pa + 1) : Nat) ≤ en) ∧ (SG ((-1) : Int32) ((pa + 1) : Nat) en) := by
  first
    | exact ⟨rfl, by omega, Or.inl rfl⟩
    | exact ⟨rfl, by omega, sg_mk (by assumption) (by omega)⟩
theorem lf_X3_advance_2_6 (a : Nat → Nat) (t : Nat → Nat) (en : Nat) (pa : Nat) (sg : Int32) (fa : Int32) (tu : Nat) (tb : Nat → Int32) (htu : tu ≤ 220) (hen : en ≤ 200) (hpa : pa ≤ en) (hlt : pa < en) (c_1 : ¬ nI en ≤ nI (pa + 1)) : (pa + 1) < en := by
  exact Nat.lt_of_not_le (fun q => c_1 ((nI_leI (a := en) (b := (pa + 1)) (by omega) (by omega)).mpr q))
theorem lf_X3_advance_2_7 (a : Nat → Nat) (t : Nat → Nat) (en : Nat) (pa : Nat) (sg : Int32) (fa : Int32) (tu : Nat) (tb : Nat → Int32) (htu : tu ≤ 220) (hen : en ≤ 200) (hpa : pa ≤ en) (hlt : pa < en) (c_1 : ¬ nI en ≤ nI (pa + 1)) (n_5 : (pa + 1) < en) : tu ≤ 220 := by
  first | assumption | omega | decide
theorem lf_X3_advance_2_9 (a : Nat → Nat) (t : Nat → Nat) (en : Nat) (pa : Nat) (sg : Int32) (fa : Int32) (tu : Nat) (tb : Nat → Int32) (htu : tu ≤ 220) (hen : en ≤ 200) (hpa : pa ≤ en) (hlt : pa < en) (c_1 : ¬ nI en ≤ nI (pa + 1)) (n_5 : (pa + 1) < en) (r_8 : Int32) (wr_8 : (r_8 = -1 ∨ ∃ k : Nat, k < 256 ∧ r_8 = nI k)) : (((pa + 1) : Nat) = pa + 1) ∧ (((pa + 1) : Nat) ≤ en) ∧ (SG (r_8 : Int32) ((pa + 1) : Nat) en) := by
  first
    | exact ⟨rfl, by omega, Or.inl rfl⟩
    | exact ⟨rfl, by omega, sg_mk (by assumption) (by omega)⟩
set_option maxHeartbeats 4000000 in
set_option maxRecDepth 100000 in
theorem c_X3_advance_2 (l : Launch) (D : va_G) (cI cB cZ cJ : ClassId) (tx : List (ClassId × FieldType)) (a : Nat → Nat) (t : Nat → Nat) (en : Nat) (pa : Nat) (sg : Int32) (fa : Int32) (tu : Nat) (tb : Nat → Int32) (htu : tu ≤ 220) (hen : en ≤ 200) (hpa : pa ≤ en) (hlt : pa < en) : WrV l D cI cB cZ cJ tx yX3_advance cX3_advance 1 none 1 0 0 [.ref (a 2)] [(a 2, .inr (3, [.ref (a 1), .ref (t 0), .int (nI en), .int (nI pa), .int sg, .int 2, .int fa])), (a 1, .inr (8, [.ref (a 17), .int (nI tu)])), (a 17, .inl (cB, 220, .inl tb))] (fun (v : (Nat) × (Int32)) => (v.1 = pa + 1) ∧ (v.1 ≤ en) ∧ (SG v.2 v.1 en)) (fun v => [(a 2, .inr (3, [.ref (a 1), .ref (t 0), .int (nI en), .int (nI (v.1)), .int v.2, .int 2, .int fa])), (a 1, .inr (8, [.ref (a 17), .int (nI tu)])), (a 17, .inl (cB, 220, .inl tb))]) := by
  refine wrv_of2 (by decide) (Nat.le_of_ble_eq_true rfl) ?_
  intro p e s m below meth c A ls H locs hC hK hP hD hA hS hl
  obtain ⟨hx, hb, hr, hml, hown, hts, hlocks, hin⟩ := hC
  have hown : s.vm.findClass RX3 = some m.cls := hown
  have hl : lv_has ls 1 [(0, .ref (a 2))] := hl
  refine lv_aload_n hx hb dX3_advance_0 rfl (lv_at hl 0 rfl) ?_
  refine lv_dup hx hb dX3_advance_1 rfl ?_
  refine va_get (D := D) (ci := 3) (v := .int (nI pa)) (C := RX3) (T := TX3) (N := 7) hx hb hts inT_X3 hown hK.1 hP 0 rfl rfl 3 (by decide) (hts _ k_168) (fun _ h9 => h9) rfl dX3_advance_2 ?_
  refine lv_iconst (v := 1) hx hb dX3_advance_5 (by decide) ?_
  refine lv_iadd hx hb dX3_advance_6 ?_
  refine lv_topv (y := nI (pa + 1)) (nI_add pa 1) ?_
  refine va_put (D := D) (ci := 3) (v := .int (nI (pa + 1))) (ty := .int) (C := RX3) (T := TX3) (N := 7) hx hb hts inT_X3 tyX3 tyX3_ok nmX3 hown hK.1 hP hD hS 0 rfl rfl 3 (by decide) (hts _ k_168) (fun _ h9 => h9) rfl (by decide +kernel) rfl rfl (Nat.le_of_ble_eq_true rfl) dX3_advance_7 (fun H locs hP hD hS => ?_)
  have hP : va_P D vwCl [(a 2, .inr (3, [.ref (a 1), .ref (t 0), .int (nI en), .int (nI (pa + 1)), .int sg, .int 2, .int fa])), (a 1, .inr (8, [.ref (a 17), .int (nI tu)])), (a 17, .inl (cB, 220, .inl tb))] H := hP
  have hD : va_D A [(a 2, .inr (3, [.ref (a 1), .ref (t 0), .int (nI en), .int (nI (pa + 1)), .int sg, .int 2, .int fa])), (a 1, .inr (8, [.ref (a 17), .int (nI tu)])), (a 17, .inl (cB, 220, .inl tb))] := hD
  refine lv_aload_n hx hb dX3_advance_10 rfl (lv_at hl 0 rfl) ?_
  refine lv_aload_n hx hb dX3_advance_11 rfl (lv_at hl 0 rfl) ?_
  refine va_get (D := D) (ci := 3) (v := .int (nI (pa + 1))) (C := RX3) (T := TX3) (N := 7) hx hb hts inT_X3 hown hK.1 hP 0 rfl rfl 3 (by decide) (hts _ k_168) (fun _ h9 => h9) rfl dX3_advance_12 ?_
  refine lv_aload_n hx hb dX3_advance_15 rfl (lv_at hl 0 rfl) ?_
  refine va_get (D := D) (ci := 3) (v := .int (nI en)) (C := RX3) (T := TX3) (N := 7) hx hb hts inT_X3 hown hK.1 hP 0 rfl rfl 2 (by decide) (hts _ k_167) (fun _ h9 => h9) rfl dX3_advance_16 ?_
  refine lv_icmp_ge (tgt := 36) hx hb dX3_advance_19 (by decide) (fun c_1 => ?_) (fun c_1 => ?_)
  · have n_2 : en ≤ (pa + 1) := (lf_X3_advance_2_3 a t en pa sg fa tu tb htu hen hpa hlt c_1)
    refine lv_iconst (v := (-1)) hx hb dX3_advance_36 (by decide) ?_
    refine va_put (D := D) (ci := 3) (v := .int (-1)) (ty := .int) (C := RX3) (T := TX3) (N := 7) hx hb hts inT_X3 tyX3 tyX3_ok nmX3 hown hK.1 hP hD hS 0 rfl rfl 4 (by decide) (hts _ k_169) (fun _ h9 => h9) rfl (by decide +kernel) rfl rfl (Nat.le_of_ble_eq_true rfl) dX3_advance_37 (fun H locs hP hD hS => ?_)
    have hP : va_P D vwCl [(a 2, .inr (3, [.ref (a 1), .ref (t 0), .int (nI en), .int (nI (pa + 1)), .int (-1), .int 2, .int fa])), (a 1, .inr (8, [.ref (a 17), .int (nI tu)])), (a 17, .inl (cB, 220, .inl tb))] H := hP
    have hD : va_D A [(a 2, .inr (3, [.ref (a 1), .ref (t 0), .int (nI en), .int (nI (pa + 1)), .int (-1), .int 2, .int fa])), (a 1, .inr (8, [.ref (a 17), .int (nI tu)])), (a 17, .inl (cB, 220, .inl tb))] := hD
    exact W.vret hx hb hr (fun tt9 ht hW => ⟨⟨(((pa + 1) : Nat), ((-1) : Int32)), rfl, (lf_X3_advance_2_4 a t en pa sg fa tu tb htu hen hpa hlt c_1 n_2), ⟨by rw [ht]; exact hP, hD⟩⟩, hS.F ht⟩) hS.2.2 dX3_advance_40 hlocks
  · have n_5 : (pa + 1) < en := (lf_X3_advance_2_6 a t en pa sg fa tu tb htu hen hpa hlt c_1)
    refine lv_aload_n hx hb dX3_advance_22 rfl (lv_at hl 0 rfl) ?_
    refine va_get (D := D) (ci := 3) (v := .ref (a 1)) (C := RX3) (T := TX3) (N := 7) hx hb hts inT_X3 hown hK.1 hP 0 rfl rfl 0 (by decide) (hts _ k_165) (fun _ h9 => h9) rfl dX3_advance_23 ?_
    refine lv_aload_n hx hb dX3_advance_26 rfl (lv_at hl 0 rfl) ?_
    refine va_get (D := D) (ci := 3) (v := .int (nI (pa + 1))) (C := RX3) (T := TX3) (N := 7) hx hb hts inT_X3 hown hK.1 hP 0 rfl rfl 3 (by decide) (hts _ k_168) (fun _ h9 => h9) rfl dX3_advance_27 ?_
    refine eRi (va_runV (As := [.int (nI (pa + 1))]) (rest := [.ref (a 2)]) ⟨hx, hb, hml, hown, hts⟩ (c_X8_byteAt_b l D cI cB cZ cJ tx a tu tb (nI (pa + 1)) (lf_X3_advance_2_7 a t en pa sg fa tu tb htu hen hpa hlt c_1 n_5) H.size) (zV hts k_564 v_X8_byteAt ⟨Nat.le_of_ble_eq_true rfl, Nat.le_of_ble_eq_true rfl⟩) (pV (pxS hK hP hD [1, 2] (by decide) rfl) hK hP 1 rfl rfl) rfl rfl hl.1 rfl (lv_room (Nat.le_of_ble_eq_true rfl)) dX3_advance_30 ⟨Nat.le_of_ble_eq_true rfl, Nat.le_of_ble_eq_true rfl⟩) hP hS hA (fun r_8 H locs wr_8 hP hS => ?_)
    refine lv_goto (tgt := 37) hx hb dX3_advance_33 (by decide) ?_
    refine va_put (D := D) (ci := 3) (v := .int r_8) (ty := .int) (C := RX3) (T := TX3) (N := 7) hx hb hts inT_X3 tyX3 tyX3_ok nmX3 hown hK.1 hP hD hS 0 rfl rfl 4 (by decide) (hts _ k_169) (fun _ h9 => h9) rfl (by decide +kernel) rfl rfl (Nat.le_of_ble_eq_true rfl) dX3_advance_37 (fun H locs hP hD hS => ?_)
    have hP : va_P D vwCl [(a 2, .inr (3, [.ref (a 1), .ref (t 0), .int (nI en), .int (nI (pa + 1)), .int r_8, .int 2, .int fa])), (a 1, .inr (8, [.ref (a 17), .int (nI tu)])), (a 17, .inl (cB, 220, .inl tb))] H := hP
    have hD : va_D A [(a 2, .inr (3, [.ref (a 1), .ref (t 0), .int (nI en), .int (nI (pa + 1)), .int r_8, .int 2, .int fa])), (a 1, .inr (8, [.ref (a 17), .int (nI tu)])), (a 17, .inl (cB, 220, .inl tb))] := hD
    exact W.vret hx hb hr (fun tt9 ht hW => ⟨⟨(((pa + 1) : Nat), (r_8 : Int32)), rfl, (lf_X3_advance_2_9 a t en pa sg fa tu tb htu hen hpa hlt c_1 n_5 r_8 wr_8), ⟨by rw [ht]; exact hP, hD⟩⟩, hS.F ht⟩) hS.2.2 dX3_advance_40 hlocks

set_option maxHeartbeats 4000000 in
set_option maxRecDepth 100000 in
theorem c_X3_refuse_2 (l : Launch) (D : va_G) (cI cB cZ cJ : ClassId) (tx : List (ClassId × FieldType)) (a : Nat → Nat) (t : Nat → Nat) (en : Nat) (pa : Nat) (sg : Int32) (fa : Int32) (n1 : Int32) : WrV l D cI cB cZ cJ tx yX3_refuse cX3_refuse 2 none 0 0 0 [.ref (a 2), .int n1] [(a 2, .inr (3, [.ref (a 1), .ref (t 0), .int (nI en), .int (nI pa), .int sg, .int 2, .int fa]))] (fun (v : (Int32)) => True) (fun v => [(a 2, .inr (3, [.ref (a 1), .ref (t 0), .int (nI en), .int (nI pa), .int sg, .int 2, .int v]))]) := by
  refine wrv_of2 (by decide) (Nat.le_of_ble_eq_true rfl) ?_
  intro p e s m below meth c A ls H locs hC hK hP hD hA hS hl
  obtain ⟨hx, hb, hr, hml, hown, hts, hlocks, hin⟩ := hC
  have hown : s.vm.findClass RX3 = some m.cls := hown
  have hl : lv_has ls 2 [(0, .ref (a 2)), (1, .int n1)] := hl
  refine lv_aload_n hx hb dX3_refuse_0 rfl (lv_at hl 0 rfl) ?_
  refine va_get (D := D) (ci := 3) (v := .int fa) (C := RX3) (T := TX3) (N := 7) hx hb hts inT_X3 hown hK.1 hP 0 rfl rfl 6 (by decide) (hts _ k_171) (fun _ h9 => h9) rfl dX3_refuse_1 ?_
  refine lv_if_ne (tgt := 12) hx hb dX3_refuse_4 (by decide) (fun c_1 => ?_) (fun c_1 => ?_)
  · exact W.vret hx hb hr (fun tt9 ht hW => ⟨⟨((fa : Int32)), rfl, trivial, ⟨by rw [ht]; exact hP, hD⟩⟩, hS.F ht⟩) hS.2.2 dX3_refuse_12 hlocks
  · refine lv_aload_n hx hb dX3_refuse_7 rfl (lv_at hl 0 rfl) ?_
    refine lv_iload_n hx hb dX3_refuse_8 rfl (lv_at hl 1 rfl) ?_
    refine va_put (D := D) (ci := 3) (v := .int n1) (ty := .int) (C := RX3) (T := TX3) (N := 7) hx hb hts inT_X3 tyX3 tyX3_ok nmX3 hown hK.1 hP hD hS 0 rfl rfl 6 (by decide) (hts _ k_171) (fun _ h9 => h9) rfl (by decide +kernel) rfl rfl (Nat.le_of_ble_eq_true rfl) dX3_refuse_9 (fun H locs hP hD hS => ?_)
    have hP : va_P D vwCl [(a 2, .inr (3, [.ref (a 1), .ref (t 0), .int (nI en), .int (nI pa), .int sg, .int 2, .int n1]))] H := hP
    have hD : va_D A [(a 2, .inr (3, [.ref (a 1), .ref (t 0), .int (nI en), .int (nI pa), .int sg, .int 2, .int n1]))] := hD
    exact W.vret hx hb hr (fun tt9 ht hW => ⟨⟨((n1 : Int32)), rfl, trivial, ⟨by rw [ht]; exact hP, hD⟩⟩, hS.F ht⟩) hS.2.2 dX3_refuse_12 hlocks

theorem lf_X3_isOneOf_2_2 (a : Nat → Nat) (t : Nat → Nat) (en : Nat) (pa : Nat) (sg : Int32) (fa : Int32) (i0 : Nat) (hi0 : i0 < 16) (hsg : SG sg pa en) (c_1 : ¬ fa = 0) : ((0 : Int32) = 0) ∨ ((0 : Int32) = 1 ∧ ∃ k : Nat, k < 256 ∧ sg = nI k ∧ pa < en ∧ sHas i0 k = true) := by
  first
    | exact Or.inl rfl
    | exact Or.inr ⟨rfl, kq, hkq, by assumption, lkq, has_use (by assumption) (by assumption)⟩
theorem lf_X3_isOneOf_2_4 (a : Nat → Nat) (t : Nat → Nat) (en : Nat) (pa : Nat) (sg : Int32) (fa : Int32) (i0 : Nat) (hi0 : i0 < 16) (hsg : SG sg pa en) (c_1 : fa = 0) (c_3 : sg < 0) : ((0 : Int32) = 0) ∨ ((0 : Int32) = 1 ∧ ∃ k : Nat, k < 256 ∧ sg = nI k ∧ pa < en ∧ sHas i0 k = true) := by
  first
    | exact Or.inl rfl
    | exact Or.inr ⟨rfl, kq, hkq, by assumption, lkq, has_use (by assumption) (by assumption)⟩
theorem lf_X3_isOneOf_2_5 (a : Nat → Nat) (t : Nat → Nat) (en : Nat) (pa : Nat) (sg : Int32) (fa : Int32) (i0 : Nat) (hi0 : i0 < 16) (hsg : SG sg pa en) (c_1 : fa = 0) (c_3 : ¬ sg < 0) (kq : Nat) (hkq : kq < 256) (ekq : sg = nI kq) (lkq : pa < en) : kq < 65536 := by
  omega
theorem lf_X3_isOneOf_2_6 (a : Nat → Nat) (t : Nat → Nat) (en : Nat) (pa : Nat) (sg : Int32) (fa : Int32) (i0 : Nat) (hi0 : i0 < 16) (hsg : SG sg pa en) (c_1 : fa = 0) (c_3 : ¬ sg < 0) (kq : Nat) (hkq : kq < 256) (ekq : sg = nI kq) (lkq : pa < en) : i0 < 16 := by
  first | assumption | omega | decide | exact sg_nI (by assumption) (by assumption)
theorem lf_X3_isOneOf_2_7 (a : Nat → Nat) (t : Nat → Nat) (en : Nat) (pa : Nat) (sg : Int32) (fa : Int32) (i0 : Nat) (hi0 : i0 < 16) (hsg : SG sg pa en) (c_1 : fa = 0) (c_3 : ¬ sg < 0) (kq : Nat) (hkq : kq < 256) (ekq : sg = nI kq) (lkq : pa < en) : kq < 256 := by
  first | assumption | omega | decide | exact sg_nI (by assumption) (by assumption)
theorem lf_X3_isOneOf_2_8 (a : Nat → Nat) (t : Nat → Nat) (en : Nat) (pa : Nat) (sg : Int32) (fa : Int32) (i0 : Nat) (hi0 : i0 < 16) (hsg : SG sg pa en) (c_1 : fa = 0) (c_3 : ¬ sg < 0) (kq : Nat) (hkq : kq < 256) (ekq : sg = nI kq) (lkq : pa < en) : i0 < 16 := by
  first | omega | assumption
theorem lf_X3_isOneOf_2_11 (a : Nat → Nat) (t : Nat → Nat) (en : Nat) (pa : Nat) (sg : Int32) (fa : Int32) (i0 : Nat) (hi0 : i0 < 16) (hsg : SG sg pa en) (c_1 : fa = 0) (c_3 : ¬ sg < 0) (kq : Nat) (hkq : kq < 256) (ekq : sg = nI kq) (lkq : pa < en) (r_9 : Int32) (wr_9 : 0 ≤ r_9 → sHas i0 kq = true) (c_10 : r_9 < 0) : ((0 : Int32) = 0) ∨ ((0 : Int32) = 1 ∧ ∃ k : Nat, k < 256 ∧ sg = nI k ∧ pa < en ∧ sHas i0 k = true) := by
  first
    | exact Or.inl rfl
    | exact Or.inr ⟨rfl, kq, hkq, by assumption, lkq, has_use (by assumption) (by assumption)⟩
theorem lf_X3_isOneOf_2_12 (a : Nat → Nat) (t : Nat → Nat) (en : Nat) (pa : Nat) (sg : Int32) (fa : Int32) (i0 : Nat) (hi0 : i0 < 16) (hsg : SG sg pa en) (c_1 : fa = 0) (c_3 : ¬ sg < 0) (kq : Nat) (hkq : kq < 256) (ekq : sg = nI kq) (lkq : pa < en) (r_9 : Int32) (wr_9 : 0 ≤ r_9 → sHas i0 kq = true) (c_10 : ¬ r_9 < 0) : ((1 : Int32) = 0) ∨ ((1 : Int32) = 1 ∧ ∃ k : Nat, k < 256 ∧ sg = nI k ∧ pa < en ∧ sHas i0 k = true) := by
  first
    | exact Or.inl rfl
    | exact Or.inr ⟨rfl, kq, hkq, by assumption, lkq, has_use (by assumption) (by assumption)⟩
set_option maxHeartbeats 4000000 in
set_option maxRecDepth 100000 in
theorem c_X3_isOneOf_2 (l : Launch) (D : va_G) (cI cB cZ cJ : ClassId) (tx : List (ClassId × FieldType)) (adK adV : Nat → Nat) (a : Nat → Nat) (t : Nat → Nat) (en : Nat) (pa : Nat) (sg : Int32) (fa : Int32) (i0 : Nat) (hi0 : i0 < 16) (hsg : SG sg pa en) : RzI l D cI cB cZ cJ tx adK adV yX3_isOneOf cX3_isOneOf 2 (some .boolean) 4 [.ref (a 2), .ref (adK i0)] [(a 2, .inr (3, [.ref (a 1), .ref (t 0), .int (nI en), .int (nI pa), .int sg, .int 2, .int fa]))] (fun r => (r = 0) ∨ (r = 1 ∧ ∃ k : Nat, k < 256 ∧ sg = nI k ∧ pa < en ∧ sHas i0 k = true)) := by
  refine rzi_of2 (by decide +kernel) (Nat.le_of_ble_eq_true rfl) ?_
  intro p e s m below meth c A ls H locs hC hK hZ hP hD hA hS hl
  obtain ⟨hx, hb, hr, hml, hown, hts, hlocks, hin⟩ := hC
  have hown : s.vm.findClass RX3 = some m.cls := hown
  have hl : lv_has ls 2 [(0, .ref (a 2)), (1, .ref (adK i0))] := hl
  refine lv_aload_n hx hb dX3_isOneOf_0 rfl (lv_at hl 0 rfl) ?_
  refine va_get (D := D) (ci := 3) (v := .int fa) (C := RX3) (T := TX3) (N := 7) hx hb hts inT_X3 hown hK.1 hP 0 rfl rfl 6 (by decide) (hts _ k_171) (fun _ h9 => h9) rfl dX3_isOneOf_1 ?_
  refine lv_if_ne (tgt := 30) hx hb dX3_isOneOf_4 (by decide) (fun c_1 => ?_) (fun c_1 => ?_)
  · refine lv_iconst (v := 0) hx hb dX3_isOneOf_30 (by decide) ?_
    exact W.zret (v := 0) hx hb hr (by decide) (fun tt9 ht hW => ⟨⟨(0 : Int32), (), rfl, (lf_X3_isOneOf_2_2 a t en pa sg fa i0 hi0 hsg c_1), trivial⟩, hS.F ht⟩) hS.2.2 dX3_isOneOf_31 hlocks
  · refine lv_aload_n hx hb dX3_isOneOf_7 rfl (lv_at hl 0 rfl) ?_
    refine va_get (D := D) (ci := 3) (v := .int sg) (C := RX3) (T := TX3) (N := 7) hx hb hts inT_X3 hown hK.1 hP 0 rfl rfl 4 (by decide) (hts _ k_169) (fun _ h9 => h9) rfl dX3_isOneOf_8 ?_
    refine lv_if_lt (tgt := 30) hx hb dX3_isOneOf_11 (by decide) (fun c_3 => ?_) (fun c_3 => ?_)
    · refine lv_iconst (v := 0) hx hb dX3_isOneOf_30 (by decide) ?_
      exact W.zret (v := 0) hx hb hr (by decide) (fun tt9 ht hW => ⟨⟨(0 : Int32), (), rfl, (lf_X3_isOneOf_2_4 a t en pa sg fa i0 hi0 hsg c_1 c_3), trivial⟩, hS.F ht⟩) hS.2.2 dX3_isOneOf_31 hlocks
    · obtain ⟨kq, hkq, ekq, lkq⟩ := sg_of hsg c_3
      subst ekq
      refine lv_aload_n hx hb dX3_isOneOf_14 rfl (lv_at hl 1 rfl) ?_
      refine lv_aload_n hx hb dX3_isOneOf_15 rfl (lv_at hl 0 rfl) ?_
      refine va_get (D := D) (ci := 3) (v := .int (nI kq)) (C := RX3) (T := TX3) (N := 7) hx hb hts inT_X3 hown hK.1 hP 0 rfl rfl 4 (by decide) (hts _ k_169) (fun _ h9 => h9) rfl dX3_isOneOf_16 ?_
      refine lv_i2c hx hb dX3_isOneOf_19 (i2c_nI (lf_X3_isOneOf_2_5 a t en pa (nI kq) fa i0 hi0 hsg c_1 c_3 kq hkq rfl lkq)) ?_
      refine eRi (va_runV (As := [.int (nI kq)]) (rest := []) ⟨hx, hb, hml, hown, hts⟩ (c_J0_indexOf1 l D cI cB cZ cJ tx adK adV i0 kq (lf_X3_isOneOf_2_6 a t en pa (nI kq) fa i0 hi0 hsg c_1 c_3 kq hkq rfl lkq) (lf_X3_isOneOf_2_7 a t en pa (nI kq) fa i0 hi0 hsg c_1 c_3 kq hkq rfl lkq) H.size) (zV hts k_576 v_J0_indexOf_0f7a4 ⟨Nat.le_of_ble_eq_true rfl, Nat.le_of_ble_eq_true rfl⟩) (pVS (pz (px0 hK) hZ hS (aR hS hA)) hZ (lf_X3_isOneOf_2_8 a t en pa (nI kq) fa i0 hi0 hsg c_1 c_3 kq hkq rfl lkq) hS) rfl rfl hl.1 rfl (lv_room (Nat.le_of_ble_eq_true rfl)) dX3_isOneOf_20 ⟨Nat.le_of_ble_eq_true rfl, Nat.le_of_ble_eq_true rfl⟩) hP hS hA (fun r_9 H locs wr_9 hP hS => ?_)
      refine lv_if_lt (tgt := 30) hx hb dX3_isOneOf_23 (by decide) (fun c_10 => ?_) (fun c_10 => ?_)
      · refine lv_iconst (v := 0) hx hb dX3_isOneOf_30 (by decide) ?_
        exact W.zret (v := 0) hx hb hr (by decide) (fun tt9 ht hW => ⟨⟨(0 : Int32), (), rfl, (lf_X3_isOneOf_2_11 a t en pa (nI kq) fa i0 hi0 hsg c_1 c_3 kq hkq rfl lkq r_9 wr_9 c_10), trivial⟩, hS.F ht⟩) hS.2.2 dX3_isOneOf_31 hlocks
      · refine lv_iconst (v := 1) hx hb dX3_isOneOf_26 (by decide) ?_
        refine lv_goto (tgt := 31) hx hb dX3_isOneOf_27 (by decide) ?_
        exact W.zret (v := 1) hx hb hr (by decide) (fun tt9 ht hW => ⟨⟨(1 : Int32), (), rfl, (lf_X3_isOneOf_2_12 a t en pa (nI kq) fa i0 hi0 hsg c_1 c_3 kq hkq rfl lkq r_9 wr_9 c_10), trivial⟩, hS.F ht⟩) hS.2.2 dX3_isOneOf_31 hlocks

theorem lf_X3_take_2_1 (a : Nat → Nat) (t : Nat → Nat) (en : Nat) (pa : Nat) (sg : Int32) (fa : Int32) (tu : Nat) (tb : Nat → Int32) (i0 : Nat) (hi0 : i0 < 16) (htu : tu ≤ 220) (hen : en ≤ 200) (hpa : pa ≤ en) (hsg : SG sg pa en) : i0 < 16 := by
  first | assumption | omega | decide | exact sg_nI (by assumption) (by assumption)
theorem lf_X3_take_2_2 (a : Nat → Nat) (t : Nat → Nat) (en : Nat) (pa : Nat) (sg : Int32) (fa : Int32) (tu : Nat) (tb : Nat → Int32) (i0 : Nat) (hi0 : i0 < 16) (htu : tu ≤ 220) (hen : en ≤ 200) (hpa : pa ≤ en) (hsg : SG sg pa en) : SG sg pa en := by
  first | assumption | omega | decide | exact sg_nI (by assumption) (by assumption)
theorem lf_X3_take_2_6 (a : Nat → Nat) (t : Nat → Nat) (en : Nat) (pa : Nat) (sg : Int32) (fa : Int32) (tu : Nat) (tb : Nat → Int32) (i0 : Nat) (hi0 : i0 < 16) (htu : tu ≤ 220) (hen : en ≤ 200) (hpa : pa ≤ en) (hsg : SG sg pa en) (fa_5 : Int32) : (pa ≤ (pa : Nat)) ∧ ((pa : Nat) ≤ en) ∧ (SG (sg : Int32) (pa : Nat) en) := by
  first | (refine ⟨?_, ?_, ?_⟩ <;> first | omega | assumption) | (refine ⟨?_, ?_, ?_, ?_⟩ <;> first | omega | assumption)
theorem lf_X3_take_2_7 (a : Nat → Nat) (t : Nat → Nat) (en : Nat) (pa : Nat) (sg : Int32) (fa : Int32) (tu : Nat) (tb : Nat → Int32) (i0 : Nat) (hi0 : i0 < 16) (htu : tu ≤ 220) (hen : en ≤ 200) (hpa : pa ≤ en) (hsg : SG sg pa en) (kk3 : Nat) (hkk3 : kk3 < 256) (lkk3 : pa < en) (skk3 : sHas i0 kk3 = true) : tu ≤ 220 := by
  first | assumption | omega | decide | exact sg_nI (by assumption) (by assumption)
theorem lf_X3_take_2_8 (a : Nat → Nat) (t : Nat → Nat) (en : Nat) (pa : Nat) (sg : Int32) (fa : Int32) (tu : Nat) (tb : Nat → Int32) (i0 : Nat) (hi0 : i0 < 16) (htu : tu ≤ 220) (hen : en ≤ 200) (hpa : pa ≤ en) (hsg : SG sg pa en) (kk3 : Nat) (hkk3 : kk3 < 256) (lkk3 : pa < en) (skk3 : sHas i0 kk3 = true) : en ≤ 200 := by
  first | assumption | omega | decide | exact sg_nI (by assumption) (by assumption)
theorem lf_X3_take_2_9 (a : Nat → Nat) (t : Nat → Nat) (en : Nat) (pa : Nat) (sg : Int32) (fa : Int32) (tu : Nat) (tb : Nat → Int32) (i0 : Nat) (hi0 : i0 < 16) (htu : tu ≤ 220) (hen : en ≤ 200) (hpa : pa ≤ en) (hsg : SG sg pa en) (kk3 : Nat) (hkk3 : kk3 < 256) (lkk3 : pa < en) (skk3 : sHas i0 kk3 = true) : pa ≤ en := by
  first | assumption | omega | decide | exact sg_nI (by assumption) (by assumption)
theorem lf_X3_take_2_10 (a : Nat → Nat) (t : Nat → Nat) (en : Nat) (pa : Nat) (sg : Int32) (fa : Int32) (tu : Nat) (tb : Nat → Int32) (i0 : Nat) (hi0 : i0 < 16) (htu : tu ≤ 220) (hen : en ≤ 200) (hpa : pa ≤ en) (hsg : SG sg pa en) (kk3 : Nat) (hkk3 : kk3 < 256) (lkk3 : pa < en) (skk3 : sHas i0 kk3 = true) : pa < en := by
  first | assumption | omega | decide | exact sg_nI (by assumption) (by assumption)
theorem lf_X3_take_2_13 (a : Nat → Nat) (t : Nat → Nat) (en : Nat) (pa : Nat) (sg : Int32) (fa : Int32) (tu : Nat) (tb : Nat → Int32) (i0 : Nat) (hi0 : i0 < 16) (htu : tu ≤ 220) (hen : en ≤ 200) (hpa : pa ≤ en) (hsg : SG sg pa en) (kk3 : Nat) (hkk3 : kk3 < 256) (lkk3 : pa < en) (skk3 : sHas i0 kk3 = true) (pa_12 : Nat) (sg_12 : Int32) (hz_12_0 : pa_12 = pa + 1) (hz_12_1 : pa_12 ≤ en) (hz_12_2 : SG sg_12 pa_12 en) : (pa ≤ (pa_12 : Nat)) ∧ ((pa_12 : Nat) ≤ en) ∧ (SG (sg_12 : Int32) (pa_12 : Nat) en) := by
  first | (refine ⟨?_, ?_, ?_⟩ <;> first | omega | assumption) | (refine ⟨?_, ?_, ?_, ?_⟩ <;> first | omega | assumption)
set_option maxHeartbeats 4000000 in
set_option maxRecDepth 100000 in
theorem c_X3_take_2 (l : Launch) (D : va_G) (cI cB cZ cJ : ClassId) (tx : List (ClassId × FieldType)) (adK adV : Nat → Nat) (a : Nat → Nat) (t : Nat → Nat) (en : Nat) (pa : Nat) (sg : Int32) (fa : Int32) (tu : Nat) (tb : Nat → Int32) (i0 : Nat) (hi0 : i0 < 16) (htu : tu ≤ 220) (hen : en ≤ 200) (hpa : pa ≤ en) (hsg : SG sg pa en) : WzV l D cI cB cZ cJ tx adK adV yX3_take cX3_take 2 none 5 0 0 [.ref (a 2), .ref (adK i0)] [(a 2, .inr (3, [.ref (a 1), .ref (t 0), .int (nI en), .int (nI pa), .int sg, .int 2, .int fa])), (a 1, .inr (8, [.ref (a 17), .int (nI tu)])), (a 17, .inl (cB, 220, .inl tb))] (fun (v : (Nat) × (Int32) × (Int32)) => (pa ≤ v.1) ∧ (v.1 ≤ en) ∧ (SG v.2.1 v.1 en)) (fun v => [(a 2, .inr (3, [.ref (a 1), .ref (t 0), .int (nI en), .int (nI (v.1)), .int v.2.1, .int 2, .int v.2.2])), (a 1, .inr (8, [.ref (a 17), .int (nI tu)])), (a 17, .inl (cB, 220, .inl tb))]) := by
  refine wzv_of2 (by decide +kernel) (Nat.le_of_ble_eq_true rfl) ?_
  intro p e s m below meth c A ls H locs hC hK hZ hP hD hA hS hl
  obtain ⟨hx, hb, hr, hml, hown, hts, hlocks, hin⟩ := hC
  have hown : s.vm.findClass RX3 = some m.cls := hown
  have hl : lv_has ls 2 [(0, .ref (a 2)), (1, .ref (adK i0))] := hl
  refine lv_aload_n hx hb dX3_take_0 rfl (lv_at hl 0 rfl) ?_
  refine lv_aload_n hx hb dX3_take_1 rfl (lv_at hl 1 rfl) ?_
  refine eRi (va_runV (As := [.ref (adK i0)]) (rest := []) ⟨hx, hb, hml, hown, hts⟩ (c_X3_isOneOf_2 l D cI cB cZ cJ tx adK adV a t en pa sg fa i0 (lf_X3_take_2_1 a t en pa sg fa tu tb i0 hi0 htu hen hpa hsg) (lf_X3_take_2_2 a t en pa sg fa tu tb i0 hi0 htu hen hpa hsg) H.size) (zV hts k_572 v_X3_isOneOf ⟨Nat.le_of_ble_eq_true rfl, Nat.le_of_ble_eq_true rfl⟩) (pV (pz (px1 hK hP 0 rfl) hZ hS (aR hS hA)) hK hP 0 rfl rfl) rfl rfl hl.1 rfl (lv_room (Nat.le_of_ble_eq_true rfl)) dX3_take_2 ⟨Nat.le_of_ble_eq_true rfl, Nat.le_of_ble_eq_true rfl⟩) hP hS hA (fun r_3 H locs wr_3 hP hS => ?_)
  rcases wr_3 with rfl | ⟨rfl, kk3, hkk3, rfl, lkk3, skk3⟩
  · refine lv_if_eq (tgt := 15) hx hb dX3_take_5 (by decide) (fun _ => ?_) (fun c => absurd c (by decide))
    refine lv_aload_n hx hb dX3_take_15 rfl (lv_at hl 0 rfl) ?_
    refine lv_iconst (v := 1) hx hb dX3_take_16 (by decide) ?_
    refine eWv (wr := [(a 1, .inr (8, [.ref (a 17), .int (nI tu)])), (a 17, .inl (cB, 220, .inl tb))]) (va_runV (As := [.int 1]) (rest := []) ⟨hx, hb, hml, hown, hts⟩ (c_X3_refuse_2 l D cI cB cZ cJ tx a t en pa sg fa 1 H.size) (zV hts k_662 v_X3_refuse ⟨Nat.le_of_ble_eq_true rfl, Nat.le_of_ble_eq_true rfl⟩) (pV (pxS hK hP hD [0] (by decide) rfl) hK hP 0 rfl rfl) rfl rfl hl.1 rfl (lv_room (Nat.le_of_ble_eq_true rfl)) dX3_take_17 ⟨Nat.le_of_ble_eq_true rfl, Nat.le_of_ble_eq_true rfl⟩) hP hD hS hA [0] [1, 2] rfl rfl (by decide) (by decide) (fun u_5 H locs wr_4 hP hD hS => ?_)
    obtain ⟨fa_5, rfl⟩ : ∃ z, z = u_5 := ⟨_, rfl⟩
    have hP : va_P D vwCl [(a 1, .inr (8, [.ref (a 17), .int (nI tu)])), (a 17, .inl (cB, 220, .inl tb)), (a 2, .inr (3, [.ref (a 1), .ref (t 0), .int (nI en), .int (nI pa), .int sg, .int 2, .int fa_5]))] H := hP
    have hD : va_D A [(a 1, .inr (8, [.ref (a 17), .int (nI tu)])), (a 17, .inl (cB, 220, .inl tb)), (a 2, .inr (3, [.ref (a 1), .ref (t 0), .int (nI en), .int (nI pa), .int sg, .int 2, .int fa_5]))] := hD
    have hP := hP.sub (ws' := [(a 2, .inr (3, [.ref (a 1), .ref (t 0), .int (nI en), .int (nI pa), .int sg, .int 2, .int fa_5])), (a 1, .inr (8, [.ref (a 17), .int (nI tu)])), (a 17, .inl (cB, 220, .inl tb))]) [2, 0, 1] rfl
    have hD := hD.sub (ws' := [(a 2, .inr (3, [.ref (a 1), .ref (t 0), .int (nI en), .int (nI pa), .int sg, .int 2, .int fa_5])), (a 1, .inr (8, [.ref (a 17), .int (nI tu)])), (a 17, .inl (cB, 220, .inl tb))]) [2, 0, 1] (by decide) rfl
    exact W.vret hx hb hr (fun tt9 ht hW => ⟨⟨((pa : Nat), (sg : Int32), (fa_5 : Int32)), rfl, (lf_X3_take_2_6 a t en pa sg fa tu tb i0 hi0 htu hen hpa hsg fa_5), ⟨by rw [ht]; exact hP, hD⟩⟩, hS.F ht⟩) hS.2.2 dX3_take_20 hlocks
  · refine lv_if_eq (tgt := 15) hx hb dX3_take_5 (by decide) (fun c => absurd c (by decide)) (fun _ => ?_)
    refine lv_aload_n hx hb dX3_take_8 rfl (lv_at hl 0 rfl) ?_
    refine eWv (wr := []) (va_runV (As := []) (rest := []) ⟨hx, hb, hml, hown, hts⟩ (c_X3_advance_2 l D cI cB cZ cJ tx a t en pa (nI kk3) fa tu tb (lf_X3_take_2_7 a t en pa (nI kk3) fa tu tb i0 hi0 htu hen hpa hsg kk3 hkk3 lkk3 skk3) (lf_X3_take_2_8 a t en pa (nI kk3) fa tu tb i0 hi0 htu hen hpa hsg kk3 hkk3 lkk3 skk3) (lf_X3_take_2_9 a t en pa (nI kk3) fa tu tb i0 hi0 htu hen hpa hsg kk3 hkk3 lkk3 skk3) (lf_X3_take_2_10 a t en pa (nI kk3) fa tu tb i0 hi0 htu hen hpa hsg kk3 hkk3 lkk3 skk3) H.size) (zV hts k_670 v_X3_advance ⟨Nat.le_of_ble_eq_true rfl, Nat.le_of_ble_eq_true rfl⟩) (pV (pxS hK hP hD [0, 1, 2] (by decide) rfl) hK hP 0 rfl rfl) rfl rfl hl.1 rfl (lv_room (Nat.le_of_ble_eq_true rfl)) dX3_take_9 ⟨Nat.le_of_ble_eq_true rfl, Nat.le_of_ble_eq_true rfl⟩) hP hD hS hA [0, 1, 2] [] rfl rfl (by decide) (by decide) (fun u_12 H locs wr_11 hP hD hS => ?_)
    obtain ⟨pa_12, sg_12⟩ := u_12
    have hz_12_0 : pa_12 = pa + 1 := wr_11.1
    have hz_12_1 : pa_12 ≤ en := wr_11.2.1
    have hz_12_2 : SG sg_12 pa_12 en := wr_11.2.2
    have hP : va_P D vwCl [(a 2, .inr (3, [.ref (a 1), .ref (t 0), .int (nI en), .int (nI pa_12), .int sg_12, .int 2, .int fa])), (a 1, .inr (8, [.ref (a 17), .int (nI tu)])), (a 17, .inl (cB, 220, .inl tb))] H := hP
    have hD : va_D A [(a 2, .inr (3, [.ref (a 1), .ref (t 0), .int (nI en), .int (nI pa_12), .int sg_12, .int 2, .int fa])), (a 1, .inr (8, [.ref (a 17), .int (nI tu)])), (a 17, .inl (cB, 220, .inl tb))] := hD
    refine lv_goto (tgt := 20) hx hb dX3_take_12 (by decide) ?_
    exact W.vret hx hb hr (fun tt9 ht hW => ⟨⟨((pa_12 : Nat), (sg_12 : Int32), (fa : Int32)), rfl, (lf_X3_take_2_13 a t en pa (nI kk3) fa tu tb i0 hi0 htu hen hpa hsg kk3 hkk3 lkk3 skk3 pa_12 sg_12 hz_12_0 hz_12_1 hz_12_2), ⟨by rw [ht]; exact hP, hD⟩⟩, hS.F ht⟩) hS.2.2 dX3_take_20 hlocks

theorem lf_X3_advance_3_3 (a : Nat → Nat) (t : Nat → Nat) (en : Nat) (pa : Nat) (sg : Int32) (fa : Int32) (tu : Nat) (tb : Nat → Int32) (htu : tu ≤ 220) (hen : en ≤ 200) (hpa : pa ≤ en) (hlt : pa < en) (c_1 : nI en ≤ nI (pa + 1)) : en ≤ (pa + 1) := by
  exact (nI_leI (a := en) (b := (pa + 1)) (by omega) (by omega)).mp c_1
theorem lf_X3_advance_3_4 (a : Nat → Nat) (t : Nat → Nat) (en : Nat) (pa : Nat) (sg : Int32) (fa : Int32) (tu : Nat) (tb : Nat → Int32) (htu : tu ≤ 220) (hen : en ≤ 200) (hpa : pa ≤ en) (hlt : pa < en) (c_1 : nI en ≤ nI (pa + 1)) (n_2 : en ≤ (pa + 1)) : (((pa + 1) : Nat) = pa + 1) ∧ (((pa + 1) : Nat) ≤ en) ∧ (SG ((-1) : Int32) ((pa + 1) : Nat) en) := by
  first
    | exact ⟨rfl, by omega, Or.inl rfl⟩
    | exact ⟨rfl, by omega, sg_mk (by assumption) (by omega)⟩
theorem lf_X3_advance_3_6 (a : Nat → Nat) (t : Nat → Nat) (en : Nat) (pa : Nat) (sg : Int32) (fa : Int32) (tu : Nat) (tb : Nat → Int32) (htu : tu ≤ 220) (hen : en ≤ 200) (hpa : pa ≤ en) (hlt : pa < en) (c_1 : ¬ nI en ≤ nI (pa + 1)) : (pa + 1) < en := by
  exact Nat.lt_of_not_le (fun q => c_1 ((nI_leI (a := en) (b := (pa + 1)) (by omega) (by omega)).mpr q))
theorem lf_X3_advance_3_7 (a : Nat → Nat) (t : Nat → Nat) (en : Nat) (pa : Nat) (sg : Int32) (fa : Int32) (tu : Nat) (tb : Nat → Int32) (htu : tu ≤ 220) (hen : en ≤ 200) (hpa : pa ≤ en) (hlt : pa < en) (c_1 : ¬ nI en ≤ nI (pa + 1)) (n_5 : (pa + 1) < en) : tu ≤ 220 := by
  first | assumption | omega | decide
theorem lf_X3_advance_3_9 (a : Nat → Nat) (t : Nat → Nat) (en : Nat) (pa : Nat) (sg : Int32) (fa : Int32) (tu : Nat) (tb : Nat → Int32) (htu : tu ≤ 220) (hen : en ≤ 200) (hpa : pa ≤ en) (hlt : pa < en) (c_1 : ¬ nI en ≤ nI (pa + 1)) (n_5 : (pa + 1) < en) (r_8 : Int32) (wr_8 : (r_8 = -1 ∨ ∃ k : Nat, k < 256 ∧ r_8 = nI k)) : (((pa + 1) : Nat) = pa + 1) ∧ (((pa + 1) : Nat) ≤ en) ∧ (SG (r_8 : Int32) ((pa + 1) : Nat) en) := by
  first
    | exact ⟨rfl, by omega, Or.inl rfl⟩
    | exact ⟨rfl, by omega, sg_mk (by assumption) (by omega)⟩
set_option maxHeartbeats 4000000 in
set_option maxRecDepth 100000 in
theorem c_X3_advance_3 (l : Launch) (D : va_G) (cI cB cZ cJ : ClassId) (tx : List (ClassId × FieldType)) (a : Nat → Nat) (t : Nat → Nat) (en : Nat) (pa : Nat) (sg : Int32) (fa : Int32) (tu : Nat) (tb : Nat → Int32) (htu : tu ≤ 220) (hen : en ≤ 200) (hpa : pa ≤ en) (hlt : pa < en) : WrV l D cI cB cZ cJ tx yX3_advance cX3_advance 1 none 1 0 0 [.ref (a 2)] [(a 2, .inr (3, [.ref (a 1), .ref (t 0), .int (nI en), .int (nI pa), .int sg, .int 3, .int fa])), (a 1, .inr (8, [.ref (a 17), .int (nI tu)])), (a 17, .inl (cB, 220, .inl tb))] (fun (v : (Nat) × (Int32)) => (v.1 = pa + 1) ∧ (v.1 ≤ en) ∧ (SG v.2 v.1 en)) (fun v => [(a 2, .inr (3, [.ref (a 1), .ref (t 0), .int (nI en), .int (nI (v.1)), .int v.2, .int 3, .int fa])), (a 1, .inr (8, [.ref (a 17), .int (nI tu)])), (a 17, .inl (cB, 220, .inl tb))]) := by
  refine wrv_of2 (by decide) (Nat.le_of_ble_eq_true rfl) ?_
  intro p e s m below meth c A ls H locs hC hK hP hD hA hS hl
  obtain ⟨hx, hb, hr, hml, hown, hts, hlocks, hin⟩ := hC
  have hown : s.vm.findClass RX3 = some m.cls := hown
  have hl : lv_has ls 1 [(0, .ref (a 2))] := hl
  refine lv_aload_n hx hb dX3_advance_0 rfl (lv_at hl 0 rfl) ?_
  refine lv_dup hx hb dX3_advance_1 rfl ?_
  refine va_get (D := D) (ci := 3) (v := .int (nI pa)) (C := RX3) (T := TX3) (N := 7) hx hb hts inT_X3 hown hK.1 hP 0 rfl rfl 3 (by decide) (hts _ k_168) (fun _ h9 => h9) rfl dX3_advance_2 ?_
  refine lv_iconst (v := 1) hx hb dX3_advance_5 (by decide) ?_
  refine lv_iadd hx hb dX3_advance_6 ?_
  refine lv_topv (y := nI (pa + 1)) (nI_add pa 1) ?_
  refine va_put (D := D) (ci := 3) (v := .int (nI (pa + 1))) (ty := .int) (C := RX3) (T := TX3) (N := 7) hx hb hts inT_X3 tyX3 tyX3_ok nmX3 hown hK.1 hP hD hS 0 rfl rfl 3 (by decide) (hts _ k_168) (fun _ h9 => h9) rfl (by decide +kernel) rfl rfl (Nat.le_of_ble_eq_true rfl) dX3_advance_7 (fun H locs hP hD hS => ?_)
  have hP : va_P D vwCl [(a 2, .inr (3, [.ref (a 1), .ref (t 0), .int (nI en), .int (nI (pa + 1)), .int sg, .int 3, .int fa])), (a 1, .inr (8, [.ref (a 17), .int (nI tu)])), (a 17, .inl (cB, 220, .inl tb))] H := hP
  have hD : va_D A [(a 2, .inr (3, [.ref (a 1), .ref (t 0), .int (nI en), .int (nI (pa + 1)), .int sg, .int 3, .int fa])), (a 1, .inr (8, [.ref (a 17), .int (nI tu)])), (a 17, .inl (cB, 220, .inl tb))] := hD
  refine lv_aload_n hx hb dX3_advance_10 rfl (lv_at hl 0 rfl) ?_
  refine lv_aload_n hx hb dX3_advance_11 rfl (lv_at hl 0 rfl) ?_
  refine va_get (D := D) (ci := 3) (v := .int (nI (pa + 1))) (C := RX3) (T := TX3) (N := 7) hx hb hts inT_X3 hown hK.1 hP 0 rfl rfl 3 (by decide) (hts _ k_168) (fun _ h9 => h9) rfl dX3_advance_12 ?_
  refine lv_aload_n hx hb dX3_advance_15 rfl (lv_at hl 0 rfl) ?_
  refine va_get (D := D) (ci := 3) (v := .int (nI en)) (C := RX3) (T := TX3) (N := 7) hx hb hts inT_X3 hown hK.1 hP 0 rfl rfl 2 (by decide) (hts _ k_167) (fun _ h9 => h9) rfl dX3_advance_16 ?_
  refine lv_icmp_ge (tgt := 36) hx hb dX3_advance_19 (by decide) (fun c_1 => ?_) (fun c_1 => ?_)
  · have n_2 : en ≤ (pa + 1) := (lf_X3_advance_3_3 a t en pa sg fa tu tb htu hen hpa hlt c_1)
    refine lv_iconst (v := (-1)) hx hb dX3_advance_36 (by decide) ?_
    refine va_put (D := D) (ci := 3) (v := .int (-1)) (ty := .int) (C := RX3) (T := TX3) (N := 7) hx hb hts inT_X3 tyX3 tyX3_ok nmX3 hown hK.1 hP hD hS 0 rfl rfl 4 (by decide) (hts _ k_169) (fun _ h9 => h9) rfl (by decide +kernel) rfl rfl (Nat.le_of_ble_eq_true rfl) dX3_advance_37 (fun H locs hP hD hS => ?_)
    have hP : va_P D vwCl [(a 2, .inr (3, [.ref (a 1), .ref (t 0), .int (nI en), .int (nI (pa + 1)), .int (-1), .int 3, .int fa])), (a 1, .inr (8, [.ref (a 17), .int (nI tu)])), (a 17, .inl (cB, 220, .inl tb))] H := hP
    have hD : va_D A [(a 2, .inr (3, [.ref (a 1), .ref (t 0), .int (nI en), .int (nI (pa + 1)), .int (-1), .int 3, .int fa])), (a 1, .inr (8, [.ref (a 17), .int (nI tu)])), (a 17, .inl (cB, 220, .inl tb))] := hD
    exact W.vret hx hb hr (fun tt9 ht hW => ⟨⟨(((pa + 1) : Nat), ((-1) : Int32)), rfl, (lf_X3_advance_3_4 a t en pa sg fa tu tb htu hen hpa hlt c_1 n_2), ⟨by rw [ht]; exact hP, hD⟩⟩, hS.F ht⟩) hS.2.2 dX3_advance_40 hlocks
  · have n_5 : (pa + 1) < en := (lf_X3_advance_3_6 a t en pa sg fa tu tb htu hen hpa hlt c_1)
    refine lv_aload_n hx hb dX3_advance_22 rfl (lv_at hl 0 rfl) ?_
    refine va_get (D := D) (ci := 3) (v := .ref (a 1)) (C := RX3) (T := TX3) (N := 7) hx hb hts inT_X3 hown hK.1 hP 0 rfl rfl 0 (by decide) (hts _ k_165) (fun _ h9 => h9) rfl dX3_advance_23 ?_
    refine lv_aload_n hx hb dX3_advance_26 rfl (lv_at hl 0 rfl) ?_
    refine va_get (D := D) (ci := 3) (v := .int (nI (pa + 1))) (C := RX3) (T := TX3) (N := 7) hx hb hts inT_X3 hown hK.1 hP 0 rfl rfl 3 (by decide) (hts _ k_168) (fun _ h9 => h9) rfl dX3_advance_27 ?_
    refine eRi (va_runV (As := [.int (nI (pa + 1))]) (rest := [.ref (a 2)]) ⟨hx, hb, hml, hown, hts⟩ (c_X8_byteAt_b l D cI cB cZ cJ tx a tu tb (nI (pa + 1)) (lf_X3_advance_3_7 a t en pa sg fa tu tb htu hen hpa hlt c_1 n_5) H.size) (zV hts k_564 v_X8_byteAt ⟨Nat.le_of_ble_eq_true rfl, Nat.le_of_ble_eq_true rfl⟩) (pV (pxS hK hP hD [1, 2] (by decide) rfl) hK hP 1 rfl rfl) rfl rfl hl.1 rfl (lv_room (Nat.le_of_ble_eq_true rfl)) dX3_advance_30 ⟨Nat.le_of_ble_eq_true rfl, Nat.le_of_ble_eq_true rfl⟩) hP hS hA (fun r_8 H locs wr_8 hP hS => ?_)
    refine lv_goto (tgt := 37) hx hb dX3_advance_33 (by decide) ?_
    refine va_put (D := D) (ci := 3) (v := .int r_8) (ty := .int) (C := RX3) (T := TX3) (N := 7) hx hb hts inT_X3 tyX3 tyX3_ok nmX3 hown hK.1 hP hD hS 0 rfl rfl 4 (by decide) (hts _ k_169) (fun _ h9 => h9) rfl (by decide +kernel) rfl rfl (Nat.le_of_ble_eq_true rfl) dX3_advance_37 (fun H locs hP hD hS => ?_)
    have hP : va_P D vwCl [(a 2, .inr (3, [.ref (a 1), .ref (t 0), .int (nI en), .int (nI (pa + 1)), .int r_8, .int 3, .int fa])), (a 1, .inr (8, [.ref (a 17), .int (nI tu)])), (a 17, .inl (cB, 220, .inl tb))] H := hP
    have hD : va_D A [(a 2, .inr (3, [.ref (a 1), .ref (t 0), .int (nI en), .int (nI (pa + 1)), .int r_8, .int 3, .int fa])), (a 1, .inr (8, [.ref (a 17), .int (nI tu)])), (a 17, .inl (cB, 220, .inl tb))] := hD
    exact W.vret hx hb hr (fun tt9 ht hW => ⟨⟨(((pa + 1) : Nat), (r_8 : Int32)), rfl, (lf_X3_advance_3_9 a t en pa sg fa tu tb htu hen hpa hlt c_1 n_5 r_8 wr_8), ⟨by rw [ht]; exact hP, hD⟩⟩, hS.F ht⟩) hS.2.2 dX3_advance_40 hlocks

set_option maxHeartbeats 4000000 in
set_option maxRecDepth 100000 in
theorem c_X3_refuse_3 (l : Launch) (D : va_G) (cI cB cZ cJ : ClassId) (tx : List (ClassId × FieldType)) (a : Nat → Nat) (t : Nat → Nat) (en : Nat) (pa : Nat) (sg : Int32) (fa : Int32) (n1 : Int32) : WrV l D cI cB cZ cJ tx yX3_refuse cX3_refuse 2 none 0 0 0 [.ref (a 2), .int n1] [(a 2, .inr (3, [.ref (a 1), .ref (t 0), .int (nI en), .int (nI pa), .int sg, .int 3, .int fa]))] (fun (v : (Int32)) => True) (fun v => [(a 2, .inr (3, [.ref (a 1), .ref (t 0), .int (nI en), .int (nI pa), .int sg, .int 3, .int v]))]) := by
  refine wrv_of2 (by decide) (Nat.le_of_ble_eq_true rfl) ?_
  intro p e s m below meth c A ls H locs hC hK hP hD hA hS hl
  obtain ⟨hx, hb, hr, hml, hown, hts, hlocks, hin⟩ := hC
  have hown : s.vm.findClass RX3 = some m.cls := hown
  have hl : lv_has ls 2 [(0, .ref (a 2)), (1, .int n1)] := hl
  refine lv_aload_n hx hb dX3_refuse_0 rfl (lv_at hl 0 rfl) ?_
  refine va_get (D := D) (ci := 3) (v := .int fa) (C := RX3) (T := TX3) (N := 7) hx hb hts inT_X3 hown hK.1 hP 0 rfl rfl 6 (by decide) (hts _ k_171) (fun _ h9 => h9) rfl dX3_refuse_1 ?_
  refine lv_if_ne (tgt := 12) hx hb dX3_refuse_4 (by decide) (fun c_1 => ?_) (fun c_1 => ?_)
  · exact W.vret hx hb hr (fun tt9 ht hW => ⟨⟨((fa : Int32)), rfl, trivial, ⟨by rw [ht]; exact hP, hD⟩⟩, hS.F ht⟩) hS.2.2 dX3_refuse_12 hlocks
  · refine lv_aload_n hx hb dX3_refuse_7 rfl (lv_at hl 0 rfl) ?_
    refine lv_iload_n hx hb dX3_refuse_8 rfl (lv_at hl 1 rfl) ?_
    refine va_put (D := D) (ci := 3) (v := .int n1) (ty := .int) (C := RX3) (T := TX3) (N := 7) hx hb hts inT_X3 tyX3 tyX3_ok nmX3 hown hK.1 hP hD hS 0 rfl rfl 6 (by decide) (hts _ k_171) (fun _ h9 => h9) rfl (by decide +kernel) rfl rfl (Nat.le_of_ble_eq_true rfl) dX3_refuse_9 (fun H locs hP hD hS => ?_)
    have hP : va_P D vwCl [(a 2, .inr (3, [.ref (a 1), .ref (t 0), .int (nI en), .int (nI pa), .int sg, .int 3, .int n1]))] H := hP
    have hD : va_D A [(a 2, .inr (3, [.ref (a 1), .ref (t 0), .int (nI en), .int (nI pa), .int sg, .int 3, .int n1]))] := hD
    exact W.vret hx hb hr (fun tt9 ht hW => ⟨⟨((n1 : Int32)), rfl, trivial, ⟨by rw [ht]; exact hP, hD⟩⟩, hS.F ht⟩) hS.2.2 dX3_refuse_12 hlocks

theorem lf_X3_isOneOf_3_2 (a : Nat → Nat) (t : Nat → Nat) (en : Nat) (pa : Nat) (sg : Int32) (fa : Int32) (i0 : Nat) (hi0 : i0 < 16) (hsg : SG sg pa en) (c_1 : ¬ fa = 0) : ((0 : Int32) = 0) ∨ ((0 : Int32) = 1 ∧ ∃ k : Nat, k < 256 ∧ sg = nI k ∧ pa < en ∧ sHas i0 k = true) := by
  first
    | exact Or.inl rfl
    | exact Or.inr ⟨rfl, kq, hkq, by assumption, lkq, has_use (by assumption) (by assumption)⟩
theorem lf_X3_isOneOf_3_4 (a : Nat → Nat) (t : Nat → Nat) (en : Nat) (pa : Nat) (sg : Int32) (fa : Int32) (i0 : Nat) (hi0 : i0 < 16) (hsg : SG sg pa en) (c_1 : fa = 0) (c_3 : sg < 0) : ((0 : Int32) = 0) ∨ ((0 : Int32) = 1 ∧ ∃ k : Nat, k < 256 ∧ sg = nI k ∧ pa < en ∧ sHas i0 k = true) := by
  first
    | exact Or.inl rfl
    | exact Or.inr ⟨rfl, kq, hkq, by assumption, lkq, has_use (by assumption) (by assumption)⟩
theorem lf_X3_isOneOf_3_5 (a : Nat → Nat) (t : Nat → Nat) (en : Nat) (pa : Nat) (sg : Int32) (fa : Int32) (i0 : Nat) (hi0 : i0 < 16) (hsg : SG sg pa en) (c_1 : fa = 0) (c_3 : ¬ sg < 0) (kq : Nat) (hkq : kq < 256) (ekq : sg = nI kq) (lkq : pa < en) : kq < 65536 := by
  omega
theorem lf_X3_isOneOf_3_6 (a : Nat → Nat) (t : Nat → Nat) (en : Nat) (pa : Nat) (sg : Int32) (fa : Int32) (i0 : Nat) (hi0 : i0 < 16) (hsg : SG sg pa en) (c_1 : fa = 0) (c_3 : ¬ sg < 0) (kq : Nat) (hkq : kq < 256) (ekq : sg = nI kq) (lkq : pa < en) : i0 < 16 := by
  first | assumption | omega | decide | exact sg_nI (by assumption) (by assumption)
theorem lf_X3_isOneOf_3_7 (a : Nat → Nat) (t : Nat → Nat) (en : Nat) (pa : Nat) (sg : Int32) (fa : Int32) (i0 : Nat) (hi0 : i0 < 16) (hsg : SG sg pa en) (c_1 : fa = 0) (c_3 : ¬ sg < 0) (kq : Nat) (hkq : kq < 256) (ekq : sg = nI kq) (lkq : pa < en) : kq < 256 := by
  first | assumption | omega | decide | exact sg_nI (by assumption) (by assumption)
theorem lf_X3_isOneOf_3_8 (a : Nat → Nat) (t : Nat → Nat) (en : Nat) (pa : Nat) (sg : Int32) (fa : Int32) (i0 : Nat) (hi0 : i0 < 16) (hsg : SG sg pa en) (c_1 : fa = 0) (c_3 : ¬ sg < 0) (kq : Nat) (hkq : kq < 256) (ekq : sg = nI kq) (lkq : pa < en) : i0 < 16 := by
  first | omega | assumption
theorem lf_X3_isOneOf_3_11 (a : Nat → Nat) (t : Nat → Nat) (en : Nat) (pa : Nat) (sg : Int32) (fa : Int32) (i0 : Nat) (hi0 : i0 < 16) (hsg : SG sg pa en) (c_1 : fa = 0) (c_3 : ¬ sg < 0) (kq : Nat) (hkq : kq < 256) (ekq : sg = nI kq) (lkq : pa < en) (r_9 : Int32) (wr_9 : 0 ≤ r_9 → sHas i0 kq = true) (c_10 : r_9 < 0) : ((0 : Int32) = 0) ∨ ((0 : Int32) = 1 ∧ ∃ k : Nat, k < 256 ∧ sg = nI k ∧ pa < en ∧ sHas i0 k = true) := by
  first
    | exact Or.inl rfl
    | exact Or.inr ⟨rfl, kq, hkq, by assumption, lkq, has_use (by assumption) (by assumption)⟩
theorem lf_X3_isOneOf_3_12 (a : Nat → Nat) (t : Nat → Nat) (en : Nat) (pa : Nat) (sg : Int32) (fa : Int32) (i0 : Nat) (hi0 : i0 < 16) (hsg : SG sg pa en) (c_1 : fa = 0) (c_3 : ¬ sg < 0) (kq : Nat) (hkq : kq < 256) (ekq : sg = nI kq) (lkq : pa < en) (r_9 : Int32) (wr_9 : 0 ≤ r_9 → sHas i0 kq = true) (c_10 : ¬ r_9 < 0) : ((1 : Int32) = 0) ∨ ((1 : Int32) = 1 ∧ ∃ k : Nat, k < 256 ∧ sg = nI k ∧ pa < en ∧ sHas i0 k = true) := by
  first
    | exact Or.inl rfl
    | exact Or.inr ⟨rfl, kq, hkq, by assumption, lkq, has_use (by assumption) (by assumption)⟩
set_option maxHeartbeats 4000000 in
set_option maxRecDepth 100000 in
theorem c_X3_isOneOf_3 (l : Launch) (D : va_G) (cI cB cZ cJ : ClassId) (tx : List (ClassId × FieldType)) (adK adV : Nat → Nat) (a : Nat → Nat) (t : Nat → Nat) (en : Nat) (pa : Nat) (sg : Int32) (fa : Int32) (i0 : Nat) (hi0 : i0 < 16) (hsg : SG sg pa en) : RzI l D cI cB cZ cJ tx adK adV yX3_isOneOf cX3_isOneOf 2 (some .boolean) 4 [.ref (a 2), .ref (adK i0)] [(a 2, .inr (3, [.ref (a 1), .ref (t 0), .int (nI en), .int (nI pa), .int sg, .int 3, .int fa]))] (fun r => (r = 0) ∨ (r = 1 ∧ ∃ k : Nat, k < 256 ∧ sg = nI k ∧ pa < en ∧ sHas i0 k = true)) := by
  refine rzi_of2 (by decide +kernel) (Nat.le_of_ble_eq_true rfl) ?_
  intro p e s m below meth c A ls H locs hC hK hZ hP hD hA hS hl
  obtain ⟨hx, hb, hr, hml, hown, hts, hlocks, hin⟩ := hC
  have hown : s.vm.findClass RX3 = some m.cls := hown
  have hl : lv_has ls 2 [(0, .ref (a 2)), (1, .ref (adK i0))] := hl
  refine lv_aload_n hx hb dX3_isOneOf_0 rfl (lv_at hl 0 rfl) ?_
  refine va_get (D := D) (ci := 3) (v := .int fa) (C := RX3) (T := TX3) (N := 7) hx hb hts inT_X3 hown hK.1 hP 0 rfl rfl 6 (by decide) (hts _ k_171) (fun _ h9 => h9) rfl dX3_isOneOf_1 ?_
  refine lv_if_ne (tgt := 30) hx hb dX3_isOneOf_4 (by decide) (fun c_1 => ?_) (fun c_1 => ?_)
  · refine lv_iconst (v := 0) hx hb dX3_isOneOf_30 (by decide) ?_
    exact W.zret (v := 0) hx hb hr (by decide) (fun tt9 ht hW => ⟨⟨(0 : Int32), (), rfl, (lf_X3_isOneOf_3_2 a t en pa sg fa i0 hi0 hsg c_1), trivial⟩, hS.F ht⟩) hS.2.2 dX3_isOneOf_31 hlocks
  · refine lv_aload_n hx hb dX3_isOneOf_7 rfl (lv_at hl 0 rfl) ?_
    refine va_get (D := D) (ci := 3) (v := .int sg) (C := RX3) (T := TX3) (N := 7) hx hb hts inT_X3 hown hK.1 hP 0 rfl rfl 4 (by decide) (hts _ k_169) (fun _ h9 => h9) rfl dX3_isOneOf_8 ?_
    refine lv_if_lt (tgt := 30) hx hb dX3_isOneOf_11 (by decide) (fun c_3 => ?_) (fun c_3 => ?_)
    · refine lv_iconst (v := 0) hx hb dX3_isOneOf_30 (by decide) ?_
      exact W.zret (v := 0) hx hb hr (by decide) (fun tt9 ht hW => ⟨⟨(0 : Int32), (), rfl, (lf_X3_isOneOf_3_4 a t en pa sg fa i0 hi0 hsg c_1 c_3), trivial⟩, hS.F ht⟩) hS.2.2 dX3_isOneOf_31 hlocks
    · obtain ⟨kq, hkq, ekq, lkq⟩ := sg_of hsg c_3
      subst ekq
      refine lv_aload_n hx hb dX3_isOneOf_14 rfl (lv_at hl 1 rfl) ?_
      refine lv_aload_n hx hb dX3_isOneOf_15 rfl (lv_at hl 0 rfl) ?_
      refine va_get (D := D) (ci := 3) (v := .int (nI kq)) (C := RX3) (T := TX3) (N := 7) hx hb hts inT_X3 hown hK.1 hP 0 rfl rfl 4 (by decide) (hts _ k_169) (fun _ h9 => h9) rfl dX3_isOneOf_16 ?_
      refine lv_i2c hx hb dX3_isOneOf_19 (i2c_nI (lf_X3_isOneOf_3_5 a t en pa (nI kq) fa i0 hi0 hsg c_1 c_3 kq hkq rfl lkq)) ?_
      refine eRi (va_runV (As := [.int (nI kq)]) (rest := []) ⟨hx, hb, hml, hown, hts⟩ (c_J0_indexOf1 l D cI cB cZ cJ tx adK adV i0 kq (lf_X3_isOneOf_3_6 a t en pa (nI kq) fa i0 hi0 hsg c_1 c_3 kq hkq rfl lkq) (lf_X3_isOneOf_3_7 a t en pa (nI kq) fa i0 hi0 hsg c_1 c_3 kq hkq rfl lkq) H.size) (zV hts k_576 v_J0_indexOf_0f7a4 ⟨Nat.le_of_ble_eq_true rfl, Nat.le_of_ble_eq_true rfl⟩) (pVS (pz (px0 hK) hZ hS (aR hS hA)) hZ (lf_X3_isOneOf_3_8 a t en pa (nI kq) fa i0 hi0 hsg c_1 c_3 kq hkq rfl lkq) hS) rfl rfl hl.1 rfl (lv_room (Nat.le_of_ble_eq_true rfl)) dX3_isOneOf_20 ⟨Nat.le_of_ble_eq_true rfl, Nat.le_of_ble_eq_true rfl⟩) hP hS hA (fun r_9 H locs wr_9 hP hS => ?_)
      refine lv_if_lt (tgt := 30) hx hb dX3_isOneOf_23 (by decide) (fun c_10 => ?_) (fun c_10 => ?_)
      · refine lv_iconst (v := 0) hx hb dX3_isOneOf_30 (by decide) ?_
        exact W.zret (v := 0) hx hb hr (by decide) (fun tt9 ht hW => ⟨⟨(0 : Int32), (), rfl, (lf_X3_isOneOf_3_11 a t en pa (nI kq) fa i0 hi0 hsg c_1 c_3 kq hkq rfl lkq r_9 wr_9 c_10), trivial⟩, hS.F ht⟩) hS.2.2 dX3_isOneOf_31 hlocks
      · refine lv_iconst (v := 1) hx hb dX3_isOneOf_26 (by decide) ?_
        refine lv_goto (tgt := 31) hx hb dX3_isOneOf_27 (by decide) ?_
        exact W.zret (v := 1) hx hb hr (by decide) (fun tt9 ht hW => ⟨⟨(1 : Int32), (), rfl, (lf_X3_isOneOf_3_12 a t en pa (nI kq) fa i0 hi0 hsg c_1 c_3 kq hkq rfl lkq r_9 wr_9 c_10), trivial⟩, hS.F ht⟩) hS.2.2 dX3_isOneOf_31 hlocks

theorem lf_X3_take_3_1 (a : Nat → Nat) (t : Nat → Nat) (en : Nat) (pa : Nat) (sg : Int32) (fa : Int32) (tu : Nat) (tb : Nat → Int32) (i0 : Nat) (hi0 : i0 < 16) (htu : tu ≤ 220) (hen : en ≤ 200) (hpa : pa ≤ en) (hsg : SG sg pa en) : i0 < 16 := by
  first | assumption | omega | decide | exact sg_nI (by assumption) (by assumption)
theorem lf_X3_take_3_2 (a : Nat → Nat) (t : Nat → Nat) (en : Nat) (pa : Nat) (sg : Int32) (fa : Int32) (tu : Nat) (tb : Nat → Int32) (i0 : Nat) (hi0 : i0 < 16) (htu : tu ≤ 220) (hen : en ≤ 200) (hpa : pa ≤ en) (hsg : SG sg pa en) : SG sg pa en := by
  first | assumption | omega | decide | exact sg_nI (by assumption) (by assumption)
theorem lf_X3_take_3_6 (a : Nat → Nat) (t : Nat → Nat) (en : Nat) (pa : Nat) (sg : Int32) (fa : Int32) (tu : Nat) (tb : Nat → Int32) (i0 : Nat) (hi0 : i0 < 16) (htu : tu ≤ 220) (hen : en ≤ 200) (hpa : pa ≤ en) (hsg : SG sg pa en) (fa_5 : Int32) : (pa ≤ (pa : Nat)) ∧ ((pa : Nat) ≤ en) ∧ (SG (sg : Int32) (pa : Nat) en) := by
  first | (refine ⟨?_, ?_, ?_⟩ <;> first | omega | assumption) | (refine ⟨?_, ?_, ?_, ?_⟩ <;> first | omega | assumption)
theorem lf_X3_take_3_7 (a : Nat → Nat) (t : Nat → Nat) (en : Nat) (pa : Nat) (sg : Int32) (fa : Int32) (tu : Nat) (tb : Nat → Int32) (i0 : Nat) (hi0 : i0 < 16) (htu : tu ≤ 220) (hen : en ≤ 200) (hpa : pa ≤ en) (hsg : SG sg pa en) (kk3 : Nat) (hkk3 : kk3 < 256) (lkk3 : pa < en) (skk3 : sHas i0 kk3 = true) : tu ≤ 220 := by
  first | assumption | omega | decide | exact sg_nI (by assumption) (by assumption)
theorem lf_X3_take_3_8 (a : Nat → Nat) (t : Nat → Nat) (en : Nat) (pa : Nat) (sg : Int32) (fa : Int32) (tu : Nat) (tb : Nat → Int32) (i0 : Nat) (hi0 : i0 < 16) (htu : tu ≤ 220) (hen : en ≤ 200) (hpa : pa ≤ en) (hsg : SG sg pa en) (kk3 : Nat) (hkk3 : kk3 < 256) (lkk3 : pa < en) (skk3 : sHas i0 kk3 = true) : en ≤ 200 := by
  first | assumption | omega | decide | exact sg_nI (by assumption) (by assumption)
theorem lf_X3_take_3_9 (a : Nat → Nat) (t : Nat → Nat) (en : Nat) (pa : Nat) (sg : Int32) (fa : Int32) (tu : Nat) (tb : Nat → Int32) (i0 : Nat) (hi0 : i0 < 16) (htu : tu ≤ 220) (hen : en ≤ 200) (hpa : pa ≤ en) (hsg : SG sg pa en) (kk3 : Nat) (hkk3 : kk3 < 256) (lkk3 : pa < en) (skk3 : sHas i0 kk3 = true) : pa ≤ en := by
  first | assumption | omega | decide | exact sg_nI (by assumption) (by assumption)
theorem lf_X3_take_3_10 (a : Nat → Nat) (t : Nat → Nat) (en : Nat) (pa : Nat) (sg : Int32) (fa : Int32) (tu : Nat) (tb : Nat → Int32) (i0 : Nat) (hi0 : i0 < 16) (htu : tu ≤ 220) (hen : en ≤ 200) (hpa : pa ≤ en) (hsg : SG sg pa en) (kk3 : Nat) (hkk3 : kk3 < 256) (lkk3 : pa < en) (skk3 : sHas i0 kk3 = true) : pa < en := by
  first | assumption | omega | decide | exact sg_nI (by assumption) (by assumption)
theorem lf_X3_take_3_13 (a : Nat → Nat) (t : Nat → Nat) (en : Nat) (pa : Nat) (sg : Int32) (fa : Int32) (tu : Nat) (tb : Nat → Int32) (i0 : Nat) (hi0 : i0 < 16) (htu : tu ≤ 220) (hen : en ≤ 200) (hpa : pa ≤ en) (hsg : SG sg pa en) (kk3 : Nat) (hkk3 : kk3 < 256) (lkk3 : pa < en) (skk3 : sHas i0 kk3 = true) (pa_12 : Nat) (sg_12 : Int32) (hz_12_0 : pa_12 = pa + 1) (hz_12_1 : pa_12 ≤ en) (hz_12_2 : SG sg_12 pa_12 en) : (pa ≤ (pa_12 : Nat)) ∧ ((pa_12 : Nat) ≤ en) ∧ (SG (sg_12 : Int32) (pa_12 : Nat) en) := by
  first | (refine ⟨?_, ?_, ?_⟩ <;> first | omega | assumption) | (refine ⟨?_, ?_, ?_, ?_⟩ <;> first | omega | assumption)
set_option maxHeartbeats 4000000 in
set_option maxRecDepth 100000 in
theorem c_X3_take_3 (l : Launch) (D : va_G) (cI cB cZ cJ : ClassId) (tx : List (ClassId × FieldType)) (adK adV : Nat → Nat) (a : Nat → Nat) (t : Nat → Nat) (en : Nat) (pa : Nat) (sg : Int32) (fa : Int32) (tu : Nat) (tb : Nat → Int32) (i0 : Nat) (hi0 : i0 < 16) (htu : tu ≤ 220) (hen : en ≤ 200) (hpa : pa ≤ en) (hsg : SG sg pa en) : WzV l D cI cB cZ cJ tx adK adV yX3_take cX3_take 2 none 5 0 0 [.ref (a 2), .ref (adK i0)] [(a 2, .inr (3, [.ref (a 1), .ref (t 0), .int (nI en), .int (nI pa), .int sg, .int 3, .int fa])), (a 1, .inr (8, [.ref (a 17), .int (nI tu)])), (a 17, .inl (cB, 220, .inl tb))] (fun (v : (Nat) × (Int32) × (Int32)) => (pa ≤ v.1) ∧ (v.1 ≤ en) ∧ (SG v.2.1 v.1 en)) (fun v => [(a 2, .inr (3, [.ref (a 1), .ref (t 0), .int (nI en), .int (nI (v.1)), .int v.2.1, .int 3, .int v.2.2])), (a 1, .inr (8, [.ref (a 17), .int (nI tu)])), (a 17, .inl (cB, 220, .inl tb))]) := by
  refine wzv_of2 (by decide +kernel) (Nat.le_of_ble_eq_true rfl) ?_
  intro p e s m below meth c A ls H locs hC hK hZ hP hD hA hS hl
  obtain ⟨hx, hb, hr, hml, hown, hts, hlocks, hin⟩ := hC
  have hown : s.vm.findClass RX3 = some m.cls := hown
  have hl : lv_has ls 2 [(0, .ref (a 2)), (1, .ref (adK i0))] := hl
  refine lv_aload_n hx hb dX3_take_0 rfl (lv_at hl 0 rfl) ?_
  refine lv_aload_n hx hb dX3_take_1 rfl (lv_at hl 1 rfl) ?_
  refine eRi (va_runV (As := [.ref (adK i0)]) (rest := []) ⟨hx, hb, hml, hown, hts⟩ (c_X3_isOneOf_3 l D cI cB cZ cJ tx adK adV a t en pa sg fa i0 (lf_X3_take_3_1 a t en pa sg fa tu tb i0 hi0 htu hen hpa hsg) (lf_X3_take_3_2 a t en pa sg fa tu tb i0 hi0 htu hen hpa hsg) H.size) (zV hts k_572 v_X3_isOneOf ⟨Nat.le_of_ble_eq_true rfl, Nat.le_of_ble_eq_true rfl⟩) (pV (pz (px1 hK hP 0 rfl) hZ hS (aR hS hA)) hK hP 0 rfl rfl) rfl rfl hl.1 rfl (lv_room (Nat.le_of_ble_eq_true rfl)) dX3_take_2 ⟨Nat.le_of_ble_eq_true rfl, Nat.le_of_ble_eq_true rfl⟩) hP hS hA (fun r_3 H locs wr_3 hP hS => ?_)
  rcases wr_3 with rfl | ⟨rfl, kk3, hkk3, rfl, lkk3, skk3⟩
  · refine lv_if_eq (tgt := 15) hx hb dX3_take_5 (by decide) (fun _ => ?_) (fun c => absurd c (by decide))
    refine lv_aload_n hx hb dX3_take_15 rfl (lv_at hl 0 rfl) ?_
    refine lv_iconst (v := 1) hx hb dX3_take_16 (by decide) ?_
    refine eWv (wr := [(a 1, .inr (8, [.ref (a 17), .int (nI tu)])), (a 17, .inl (cB, 220, .inl tb))]) (va_runV (As := [.int 1]) (rest := []) ⟨hx, hb, hml, hown, hts⟩ (c_X3_refuse_3 l D cI cB cZ cJ tx a t en pa sg fa 1 H.size) (zV hts k_662 v_X3_refuse ⟨Nat.le_of_ble_eq_true rfl, Nat.le_of_ble_eq_true rfl⟩) (pV (pxS hK hP hD [0] (by decide) rfl) hK hP 0 rfl rfl) rfl rfl hl.1 rfl (lv_room (Nat.le_of_ble_eq_true rfl)) dX3_take_17 ⟨Nat.le_of_ble_eq_true rfl, Nat.le_of_ble_eq_true rfl⟩) hP hD hS hA [0] [1, 2] rfl rfl (by decide) (by decide) (fun u_5 H locs wr_4 hP hD hS => ?_)
    obtain ⟨fa_5, rfl⟩ : ∃ z, z = u_5 := ⟨_, rfl⟩
    have hP : va_P D vwCl [(a 1, .inr (8, [.ref (a 17), .int (nI tu)])), (a 17, .inl (cB, 220, .inl tb)), (a 2, .inr (3, [.ref (a 1), .ref (t 0), .int (nI en), .int (nI pa), .int sg, .int 3, .int fa_5]))] H := hP
    have hD : va_D A [(a 1, .inr (8, [.ref (a 17), .int (nI tu)])), (a 17, .inl (cB, 220, .inl tb)), (a 2, .inr (3, [.ref (a 1), .ref (t 0), .int (nI en), .int (nI pa), .int sg, .int 3, .int fa_5]))] := hD
    have hP := hP.sub (ws' := [(a 2, .inr (3, [.ref (a 1), .ref (t 0), .int (nI en), .int (nI pa), .int sg, .int 3, .int fa_5])), (a 1, .inr (8, [.ref (a 17), .int (nI tu)])), (a 17, .inl (cB, 220, .inl tb))]) [2, 0, 1] rfl
    have hD := hD.sub (ws' := [(a 2, .inr (3, [.ref (a 1), .ref (t 0), .int (nI en), .int (nI pa), .int sg, .int 3, .int fa_5])), (a 1, .inr (8, [.ref (a 17), .int (nI tu)])), (a 17, .inl (cB, 220, .inl tb))]) [2, 0, 1] (by decide) rfl
    exact W.vret hx hb hr (fun tt9 ht hW => ⟨⟨((pa : Nat), (sg : Int32), (fa_5 : Int32)), rfl, (lf_X3_take_3_6 a t en pa sg fa tu tb i0 hi0 htu hen hpa hsg fa_5), ⟨by rw [ht]; exact hP, hD⟩⟩, hS.F ht⟩) hS.2.2 dX3_take_20 hlocks
  · refine lv_if_eq (tgt := 15) hx hb dX3_take_5 (by decide) (fun c => absurd c (by decide)) (fun _ => ?_)
    refine lv_aload_n hx hb dX3_take_8 rfl (lv_at hl 0 rfl) ?_
    refine eWv (wr := []) (va_runV (As := []) (rest := []) ⟨hx, hb, hml, hown, hts⟩ (c_X3_advance_3 l D cI cB cZ cJ tx a t en pa (nI kk3) fa tu tb (lf_X3_take_3_7 a t en pa (nI kk3) fa tu tb i0 hi0 htu hen hpa hsg kk3 hkk3 lkk3 skk3) (lf_X3_take_3_8 a t en pa (nI kk3) fa tu tb i0 hi0 htu hen hpa hsg kk3 hkk3 lkk3 skk3) (lf_X3_take_3_9 a t en pa (nI kk3) fa tu tb i0 hi0 htu hen hpa hsg kk3 hkk3 lkk3 skk3) (lf_X3_take_3_10 a t en pa (nI kk3) fa tu tb i0 hi0 htu hen hpa hsg kk3 hkk3 lkk3 skk3) H.size) (zV hts k_670 v_X3_advance ⟨Nat.le_of_ble_eq_true rfl, Nat.le_of_ble_eq_true rfl⟩) (pV (pxS hK hP hD [0, 1, 2] (by decide) rfl) hK hP 0 rfl rfl) rfl rfl hl.1 rfl (lv_room (Nat.le_of_ble_eq_true rfl)) dX3_take_9 ⟨Nat.le_of_ble_eq_true rfl, Nat.le_of_ble_eq_true rfl⟩) hP hD hS hA [0, 1, 2] [] rfl rfl (by decide) (by decide) (fun u_12 H locs wr_11 hP hD hS => ?_)
    obtain ⟨pa_12, sg_12⟩ := u_12
    have hz_12_0 : pa_12 = pa + 1 := wr_11.1
    have hz_12_1 : pa_12 ≤ en := wr_11.2.1
    have hz_12_2 : SG sg_12 pa_12 en := wr_11.2.2
    have hP : va_P D vwCl [(a 2, .inr (3, [.ref (a 1), .ref (t 0), .int (nI en), .int (nI pa_12), .int sg_12, .int 3, .int fa])), (a 1, .inr (8, [.ref (a 17), .int (nI tu)])), (a 17, .inl (cB, 220, .inl tb))] H := hP
    have hD : va_D A [(a 2, .inr (3, [.ref (a 1), .ref (t 0), .int (nI en), .int (nI pa_12), .int sg_12, .int 3, .int fa])), (a 1, .inr (8, [.ref (a 17), .int (nI tu)])), (a 17, .inl (cB, 220, .inl tb))] := hD
    refine lv_goto (tgt := 20) hx hb dX3_take_12 (by decide) ?_
    exact W.vret hx hb hr (fun tt9 ht hW => ⟨⟨((pa_12 : Nat), (sg_12 : Int32), (fa : Int32)), rfl, (lf_X3_take_3_13 a t en pa (nI kk3) fa tu tb i0 hi0 htu hen hpa hsg kk3 hkk3 lkk3 skk3 pa_12 sg_12 hz_12_0 hz_12_1 hz_12_2), ⟨by rw [ht]; exact hP, hD⟩⟩, hS.F ht⟩) hS.2.2 dX3_take_20 hlocks

theorem lf_X3_advance_4_3 (a : Nat → Nat) (t : Nat → Nat) (en : Nat) (pa : Nat) (sg : Int32) (fa : Int32) (tu : Nat) (tb : Nat → Int32) (htu : tu ≤ 220) (hen : en ≤ 200) (hpa : pa ≤ en) (hlt : pa < en) (c_1 : nI en ≤ nI (pa + 1)) : en ≤ (pa + 1) := by
  exact (nI_leI (a := en) (b := (pa + 1)) (by omega) (by omega)).mp c_1
theorem lf_X3_advance_4_4 (a : Nat → Nat) (t : Nat → Nat) (en : Nat) (pa : Nat) (sg : Int32) (fa : Int32) (tu : Nat) (tb : Nat → Int32) (htu : tu ≤ 220) (hen : en ≤ 200) (hpa : pa ≤ en) (hlt : pa < en) (c_1 : nI en ≤ nI (pa + 1)) (n_2 : en ≤ (pa + 1)) : (((pa + 1) : Nat) = pa + 1) ∧ (((pa + 1) : Nat) ≤ en) ∧ (SG ((-1) : Int32) ((pa + 1) : Nat) en) := by
  first
    | exact ⟨rfl, by omega, Or.inl rfl⟩
    | exact ⟨rfl, by omega, sg_mk (by assumption) (by omega)⟩
theorem lf_X3_advance_4_6 (a : Nat → Nat) (t : Nat → Nat) (en : Nat) (pa : Nat) (sg : Int32) (fa : Int32) (tu : Nat) (tb : Nat → Int32) (htu : tu ≤ 220) (hen : en ≤ 200) (hpa : pa ≤ en) (hlt : pa < en) (c_1 : ¬ nI en ≤ nI (pa + 1)) : (pa + 1) < en := by
  exact Nat.lt_of_not_le (fun q => c_1 ((nI_leI (a := en) (b := (pa + 1)) (by omega) (by omega)).mpr q))
theorem lf_X3_advance_4_7 (a : Nat → Nat) (t : Nat → Nat) (en : Nat) (pa : Nat) (sg : Int32) (fa : Int32) (tu : Nat) (tb : Nat → Int32) (htu : tu ≤ 220) (hen : en ≤ 200) (hpa : pa ≤ en) (hlt : pa < en) (c_1 : ¬ nI en ≤ nI (pa + 1)) (n_5 : (pa + 1) < en) : tu ≤ 220 := by
  first | assumption | omega | decide
theorem lf_X3_advance_4_9 (a : Nat → Nat) (t : Nat → Nat) (en : Nat) (pa : Nat) (sg : Int32) (fa : Int32) (tu : Nat) (tb : Nat → Int32) (htu : tu ≤ 220) (hen : en ≤ 200) (hpa : pa ≤ en) (hlt : pa < en) (c_1 : ¬ nI en ≤ nI (pa + 1)) (n_5 : (pa + 1) < en) (r_8 : Int32) (wr_8 : (r_8 = -1 ∨ ∃ k : Nat, k < 256 ∧ r_8 = nI k)) : (((pa + 1) : Nat) = pa + 1) ∧ (((pa + 1) : Nat) ≤ en) ∧ (SG (r_8 : Int32) ((pa + 1) : Nat) en) := by
  first
    | exact ⟨rfl, by omega, Or.inl rfl⟩
    | exact ⟨rfl, by omega, sg_mk (by assumption) (by omega)⟩
set_option maxHeartbeats 4000000 in
set_option maxRecDepth 100000 in
theorem c_X3_advance_4 (l : Launch) (D : va_G) (cI cB cZ cJ : ClassId) (tx : List (ClassId × FieldType)) (a : Nat → Nat) (t : Nat → Nat) (en : Nat) (pa : Nat) (sg : Int32) (fa : Int32) (tu : Nat) (tb : Nat → Int32) (htu : tu ≤ 220) (hen : en ≤ 200) (hpa : pa ≤ en) (hlt : pa < en) : WrV l D cI cB cZ cJ tx yX3_advance cX3_advance 1 none 1 0 0 [.ref (a 2)] [(a 2, .inr (3, [.ref (a 1), .ref (t 0), .int (nI en), .int (nI pa), .int sg, .int 4, .int fa])), (a 1, .inr (8, [.ref (a 17), .int (nI tu)])), (a 17, .inl (cB, 220, .inl tb))] (fun (v : (Nat) × (Int32)) => (v.1 = pa + 1) ∧ (v.1 ≤ en) ∧ (SG v.2 v.1 en)) (fun v => [(a 2, .inr (3, [.ref (a 1), .ref (t 0), .int (nI en), .int (nI (v.1)), .int v.2, .int 4, .int fa])), (a 1, .inr (8, [.ref (a 17), .int (nI tu)])), (a 17, .inl (cB, 220, .inl tb))]) := by
  refine wrv_of2 (by decide) (Nat.le_of_ble_eq_true rfl) ?_
  intro p e s m below meth c A ls H locs hC hK hP hD hA hS hl
  obtain ⟨hx, hb, hr, hml, hown, hts, hlocks, hin⟩ := hC
  have hown : s.vm.findClass RX3 = some m.cls := hown
  have hl : lv_has ls 1 [(0, .ref (a 2))] := hl
  refine lv_aload_n hx hb dX3_advance_0 rfl (lv_at hl 0 rfl) ?_
  refine lv_dup hx hb dX3_advance_1 rfl ?_
  refine va_get (D := D) (ci := 3) (v := .int (nI pa)) (C := RX3) (T := TX3) (N := 7) hx hb hts inT_X3 hown hK.1 hP 0 rfl rfl 3 (by decide) (hts _ k_168) (fun _ h9 => h9) rfl dX3_advance_2 ?_
  refine lv_iconst (v := 1) hx hb dX3_advance_5 (by decide) ?_
  refine lv_iadd hx hb dX3_advance_6 ?_
  refine lv_topv (y := nI (pa + 1)) (nI_add pa 1) ?_
  refine va_put (D := D) (ci := 3) (v := .int (nI (pa + 1))) (ty := .int) (C := RX3) (T := TX3) (N := 7) hx hb hts inT_X3 tyX3 tyX3_ok nmX3 hown hK.1 hP hD hS 0 rfl rfl 3 (by decide) (hts _ k_168) (fun _ h9 => h9) rfl (by decide +kernel) rfl rfl (Nat.le_of_ble_eq_true rfl) dX3_advance_7 (fun H locs hP hD hS => ?_)
  have hP : va_P D vwCl [(a 2, .inr (3, [.ref (a 1), .ref (t 0), .int (nI en), .int (nI (pa + 1)), .int sg, .int 4, .int fa])), (a 1, .inr (8, [.ref (a 17), .int (nI tu)])), (a 17, .inl (cB, 220, .inl tb))] H := hP
  have hD : va_D A [(a 2, .inr (3, [.ref (a 1), .ref (t 0), .int (nI en), .int (nI (pa + 1)), .int sg, .int 4, .int fa])), (a 1, .inr (8, [.ref (a 17), .int (nI tu)])), (a 17, .inl (cB, 220, .inl tb))] := hD
  refine lv_aload_n hx hb dX3_advance_10 rfl (lv_at hl 0 rfl) ?_
  refine lv_aload_n hx hb dX3_advance_11 rfl (lv_at hl 0 rfl) ?_
  refine va_get (D := D) (ci := 3) (v := .int (nI (pa + 1))) (C := RX3) (T := TX3) (N := 7) hx hb hts inT_X3 hown hK.1 hP 0 rfl rfl 3 (by decide) (hts _ k_168) (fun _ h9 => h9) rfl dX3_advance_12 ?_
  refine lv_aload_n hx hb dX3_advance_15 rfl (lv_at hl 0 rfl) ?_
  refine va_get (D := D) (ci := 3) (v := .int (nI en)) (C := RX3) (T := TX3) (N := 7) hx hb hts inT_X3 hown hK.1 hP 0 rfl rfl 2 (by decide) (hts _ k_167) (fun _ h9 => h9) rfl dX3_advance_16 ?_
  refine lv_icmp_ge (tgt := 36) hx hb dX3_advance_19 (by decide) (fun c_1 => ?_) (fun c_1 => ?_)
  · have n_2 : en ≤ (pa + 1) := (lf_X3_advance_4_3 a t en pa sg fa tu tb htu hen hpa hlt c_1)
    refine lv_iconst (v := (-1)) hx hb dX3_advance_36 (by decide) ?_
    refine va_put (D := D) (ci := 3) (v := .int (-1)) (ty := .int) (C := RX3) (T := TX3) (N := 7) hx hb hts inT_X3 tyX3 tyX3_ok nmX3 hown hK.1 hP hD hS 0 rfl rfl 4 (by decide) (hts _ k_169) (fun _ h9 => h9) rfl (by decide +kernel) rfl rfl (Nat.le_of_ble_eq_true rfl) dX3_advance_37 (fun H locs hP hD hS => ?_)
    have hP : va_P D vwCl [(a 2, .inr (3, [.ref (a 1), .ref (t 0), .int (nI en), .int (nI (pa + 1)), .int (-1), .int 4, .int fa])), (a 1, .inr (8, [.ref (a 17), .int (nI tu)])), (a 17, .inl (cB, 220, .inl tb))] H := hP
    have hD : va_D A [(a 2, .inr (3, [.ref (a 1), .ref (t 0), .int (nI en), .int (nI (pa + 1)), .int (-1), .int 4, .int fa])), (a 1, .inr (8, [.ref (a 17), .int (nI tu)])), (a 17, .inl (cB, 220, .inl tb))] := hD
    exact W.vret hx hb hr (fun tt9 ht hW => ⟨⟨(((pa + 1) : Nat), ((-1) : Int32)), rfl, (lf_X3_advance_4_4 a t en pa sg fa tu tb htu hen hpa hlt c_1 n_2), ⟨by rw [ht]; exact hP, hD⟩⟩, hS.F ht⟩) hS.2.2 dX3_advance_40 hlocks
  · have n_5 : (pa + 1) < en := (lf_X3_advance_4_6 a t en pa sg fa tu tb htu hen hpa hlt c_1)
    refine lv_aload_n hx hb dX3_advance_22 rfl (lv_at hl 0 rfl) ?_
    refine va_get (D := D) (ci := 3) (v := .ref (a 1)) (C := RX3) (T := TX3) (N := 7) hx hb hts inT_X3 hown hK.1 hP 0 rfl rfl 0 (by decide) (hts _ k_165) (fun _ h9 => h9) rfl dX3_advance_23 ?_
    refine lv_aload_n hx hb dX3_advance_26 rfl (lv_at hl 0 rfl) ?_
    refine va_get (D := D) (ci := 3) (v := .int (nI (pa + 1))) (C := RX3) (T := TX3) (N := 7) hx hb hts inT_X3 hown hK.1 hP 0 rfl rfl 3 (by decide) (hts _ k_168) (fun _ h9 => h9) rfl dX3_advance_27 ?_
    refine eRi (va_runV (As := [.int (nI (pa + 1))]) (rest := [.ref (a 2)]) ⟨hx, hb, hml, hown, hts⟩ (c_X8_byteAt_b l D cI cB cZ cJ tx a tu tb (nI (pa + 1)) (lf_X3_advance_4_7 a t en pa sg fa tu tb htu hen hpa hlt c_1 n_5) H.size) (zV hts k_564 v_X8_byteAt ⟨Nat.le_of_ble_eq_true rfl, Nat.le_of_ble_eq_true rfl⟩) (pV (pxS hK hP hD [1, 2] (by decide) rfl) hK hP 1 rfl rfl) rfl rfl hl.1 rfl (lv_room (Nat.le_of_ble_eq_true rfl)) dX3_advance_30 ⟨Nat.le_of_ble_eq_true rfl, Nat.le_of_ble_eq_true rfl⟩) hP hS hA (fun r_8 H locs wr_8 hP hS => ?_)
    refine lv_goto (tgt := 37) hx hb dX3_advance_33 (by decide) ?_
    refine va_put (D := D) (ci := 3) (v := .int r_8) (ty := .int) (C := RX3) (T := TX3) (N := 7) hx hb hts inT_X3 tyX3 tyX3_ok nmX3 hown hK.1 hP hD hS 0 rfl rfl 4 (by decide) (hts _ k_169) (fun _ h9 => h9) rfl (by decide +kernel) rfl rfl (Nat.le_of_ble_eq_true rfl) dX3_advance_37 (fun H locs hP hD hS => ?_)
    have hP : va_P D vwCl [(a 2, .inr (3, [.ref (a 1), .ref (t 0), .int (nI en), .int (nI (pa + 1)), .int r_8, .int 4, .int fa])), (a 1, .inr (8, [.ref (a 17), .int (nI tu)])), (a 17, .inl (cB, 220, .inl tb))] H := hP
    have hD : va_D A [(a 2, .inr (3, [.ref (a 1), .ref (t 0), .int (nI en), .int (nI (pa + 1)), .int r_8, .int 4, .int fa])), (a 1, .inr (8, [.ref (a 17), .int (nI tu)])), (a 17, .inl (cB, 220, .inl tb))] := hD
    exact W.vret hx hb hr (fun tt9 ht hW => ⟨⟨(((pa + 1) : Nat), (r_8 : Int32)), rfl, (lf_X3_advance_4_9 a t en pa sg fa tu tb htu hen hpa hlt c_1 n_5 r_8 wr_8), ⟨by rw [ht]; exact hP, hD⟩⟩, hS.F ht⟩) hS.2.2 dX3_advance_40 hlocks

set_option maxHeartbeats 4000000 in
set_option maxRecDepth 100000 in
theorem c_X3_refuse_4 (l : Launch) (D : va_G) (cI cB cZ cJ : ClassId) (tx : List (ClassId × FieldType)) (a : Nat → Nat) (t : Nat → Nat) (en : Nat) (pa : Nat) (sg : Int32) (fa : Int32) (n1 : Int32) : WrV l D cI cB cZ cJ tx yX3_refuse cX3_refuse 2 none 0 0 0 [.ref (a 2), .int n1] [(a 2, .inr (3, [.ref (a 1), .ref (t 0), .int (nI en), .int (nI pa), .int sg, .int 4, .int fa]))] (fun (v : (Int32)) => True) (fun v => [(a 2, .inr (3, [.ref (a 1), .ref (t 0), .int (nI en), .int (nI pa), .int sg, .int 4, .int v]))]) := by
  refine wrv_of2 (by decide) (Nat.le_of_ble_eq_true rfl) ?_
  intro p e s m below meth c A ls H locs hC hK hP hD hA hS hl
  obtain ⟨hx, hb, hr, hml, hown, hts, hlocks, hin⟩ := hC
  have hown : s.vm.findClass RX3 = some m.cls := hown
  have hl : lv_has ls 2 [(0, .ref (a 2)), (1, .int n1)] := hl
  refine lv_aload_n hx hb dX3_refuse_0 rfl (lv_at hl 0 rfl) ?_
  refine va_get (D := D) (ci := 3) (v := .int fa) (C := RX3) (T := TX3) (N := 7) hx hb hts inT_X3 hown hK.1 hP 0 rfl rfl 6 (by decide) (hts _ k_171) (fun _ h9 => h9) rfl dX3_refuse_1 ?_
  refine lv_if_ne (tgt := 12) hx hb dX3_refuse_4 (by decide) (fun c_1 => ?_) (fun c_1 => ?_)
  · exact W.vret hx hb hr (fun tt9 ht hW => ⟨⟨((fa : Int32)), rfl, trivial, ⟨by rw [ht]; exact hP, hD⟩⟩, hS.F ht⟩) hS.2.2 dX3_refuse_12 hlocks
  · refine lv_aload_n hx hb dX3_refuse_7 rfl (lv_at hl 0 rfl) ?_
    refine lv_iload_n hx hb dX3_refuse_8 rfl (lv_at hl 1 rfl) ?_
    refine va_put (D := D) (ci := 3) (v := .int n1) (ty := .int) (C := RX3) (T := TX3) (N := 7) hx hb hts inT_X3 tyX3 tyX3_ok nmX3 hown hK.1 hP hD hS 0 rfl rfl 6 (by decide) (hts _ k_171) (fun _ h9 => h9) rfl (by decide +kernel) rfl rfl (Nat.le_of_ble_eq_true rfl) dX3_refuse_9 (fun H locs hP hD hS => ?_)
    have hP : va_P D vwCl [(a 2, .inr (3, [.ref (a 1), .ref (t 0), .int (nI en), .int (nI pa), .int sg, .int 4, .int n1]))] H := hP
    have hD : va_D A [(a 2, .inr (3, [.ref (a 1), .ref (t 0), .int (nI en), .int (nI pa), .int sg, .int 4, .int n1]))] := hD
    exact W.vret hx hb hr (fun tt9 ht hW => ⟨⟨((n1 : Int32)), rfl, trivial, ⟨by rw [ht]; exact hP, hD⟩⟩, hS.F ht⟩) hS.2.2 dX3_refuse_12 hlocks

theorem lf_X3_isOneOf_4_2 (a : Nat → Nat) (t : Nat → Nat) (en : Nat) (pa : Nat) (sg : Int32) (fa : Int32) (i0 : Nat) (hi0 : i0 < 16) (hsg : SG sg pa en) (c_1 : ¬ fa = 0) : ((0 : Int32) = 0) ∨ ((0 : Int32) = 1 ∧ ∃ k : Nat, k < 256 ∧ sg = nI k ∧ pa < en ∧ sHas i0 k = true) := by
  first
    | exact Or.inl rfl
    | exact Or.inr ⟨rfl, kq, hkq, by assumption, lkq, has_use (by assumption) (by assumption)⟩
theorem lf_X3_isOneOf_4_4 (a : Nat → Nat) (t : Nat → Nat) (en : Nat) (pa : Nat) (sg : Int32) (fa : Int32) (i0 : Nat) (hi0 : i0 < 16) (hsg : SG sg pa en) (c_1 : fa = 0) (c_3 : sg < 0) : ((0 : Int32) = 0) ∨ ((0 : Int32) = 1 ∧ ∃ k : Nat, k < 256 ∧ sg = nI k ∧ pa < en ∧ sHas i0 k = true) := by
  first
    | exact Or.inl rfl
    | exact Or.inr ⟨rfl, kq, hkq, by assumption, lkq, has_use (by assumption) (by assumption)⟩
theorem lf_X3_isOneOf_4_5 (a : Nat → Nat) (t : Nat → Nat) (en : Nat) (pa : Nat) (sg : Int32) (fa : Int32) (i0 : Nat) (hi0 : i0 < 16) (hsg : SG sg pa en) (c_1 : fa = 0) (c_3 : ¬ sg < 0) (kq : Nat) (hkq : kq < 256) (ekq : sg = nI kq) (lkq : pa < en) : kq < 65536 := by
  omega
theorem lf_X3_isOneOf_4_6 (a : Nat → Nat) (t : Nat → Nat) (en : Nat) (pa : Nat) (sg : Int32) (fa : Int32) (i0 : Nat) (hi0 : i0 < 16) (hsg : SG sg pa en) (c_1 : fa = 0) (c_3 : ¬ sg < 0) (kq : Nat) (hkq : kq < 256) (ekq : sg = nI kq) (lkq : pa < en) : i0 < 16 := by
  first | assumption | omega | decide | exact sg_nI (by assumption) (by assumption)
theorem lf_X3_isOneOf_4_7 (a : Nat → Nat) (t : Nat → Nat) (en : Nat) (pa : Nat) (sg : Int32) (fa : Int32) (i0 : Nat) (hi0 : i0 < 16) (hsg : SG sg pa en) (c_1 : fa = 0) (c_3 : ¬ sg < 0) (kq : Nat) (hkq : kq < 256) (ekq : sg = nI kq) (lkq : pa < en) : kq < 256 := by
  first | assumption | omega | decide | exact sg_nI (by assumption) (by assumption)
theorem lf_X3_isOneOf_4_8 (a : Nat → Nat) (t : Nat → Nat) (en : Nat) (pa : Nat) (sg : Int32) (fa : Int32) (i0 : Nat) (hi0 : i0 < 16) (hsg : SG sg pa en) (c_1 : fa = 0) (c_3 : ¬ sg < 0) (kq : Nat) (hkq : kq < 256) (ekq : sg = nI kq) (lkq : pa < en) : i0 < 16 := by
  first | omega | assumption
theorem lf_X3_isOneOf_4_11 (a : Nat → Nat) (t : Nat → Nat) (en : Nat) (pa : Nat) (sg : Int32) (fa : Int32) (i0 : Nat) (hi0 : i0 < 16) (hsg : SG sg pa en) (c_1 : fa = 0) (c_3 : ¬ sg < 0) (kq : Nat) (hkq : kq < 256) (ekq : sg = nI kq) (lkq : pa < en) (r_9 : Int32) (wr_9 : 0 ≤ r_9 → sHas i0 kq = true) (c_10 : r_9 < 0) : ((0 : Int32) = 0) ∨ ((0 : Int32) = 1 ∧ ∃ k : Nat, k < 256 ∧ sg = nI k ∧ pa < en ∧ sHas i0 k = true) := by
  first
    | exact Or.inl rfl
    | exact Or.inr ⟨rfl, kq, hkq, by assumption, lkq, has_use (by assumption) (by assumption)⟩
theorem lf_X3_isOneOf_4_12 (a : Nat → Nat) (t : Nat → Nat) (en : Nat) (pa : Nat) (sg : Int32) (fa : Int32) (i0 : Nat) (hi0 : i0 < 16) (hsg : SG sg pa en) (c_1 : fa = 0) (c_3 : ¬ sg < 0) (kq : Nat) (hkq : kq < 256) (ekq : sg = nI kq) (lkq : pa < en) (r_9 : Int32) (wr_9 : 0 ≤ r_9 → sHas i0 kq = true) (c_10 : ¬ r_9 < 0) : ((1 : Int32) = 0) ∨ ((1 : Int32) = 1 ∧ ∃ k : Nat, k < 256 ∧ sg = nI k ∧ pa < en ∧ sHas i0 k = true) := by
  first
    | exact Or.inl rfl
    | exact Or.inr ⟨rfl, kq, hkq, by assumption, lkq, has_use (by assumption) (by assumption)⟩
set_option maxHeartbeats 4000000 in
set_option maxRecDepth 100000 in
theorem c_X3_isOneOf_4 (l : Launch) (D : va_G) (cI cB cZ cJ : ClassId) (tx : List (ClassId × FieldType)) (adK adV : Nat → Nat) (a : Nat → Nat) (t : Nat → Nat) (en : Nat) (pa : Nat) (sg : Int32) (fa : Int32) (i0 : Nat) (hi0 : i0 < 16) (hsg : SG sg pa en) : RzI l D cI cB cZ cJ tx adK adV yX3_isOneOf cX3_isOneOf 2 (some .boolean) 4 [.ref (a 2), .ref (adK i0)] [(a 2, .inr (3, [.ref (a 1), .ref (t 0), .int (nI en), .int (nI pa), .int sg, .int 4, .int fa]))] (fun r => (r = 0) ∨ (r = 1 ∧ ∃ k : Nat, k < 256 ∧ sg = nI k ∧ pa < en ∧ sHas i0 k = true)) := by
  refine rzi_of2 (by decide +kernel) (Nat.le_of_ble_eq_true rfl) ?_
  intro p e s m below meth c A ls H locs hC hK hZ hP hD hA hS hl
  obtain ⟨hx, hb, hr, hml, hown, hts, hlocks, hin⟩ := hC
  have hown : s.vm.findClass RX3 = some m.cls := hown
  have hl : lv_has ls 2 [(0, .ref (a 2)), (1, .ref (adK i0))] := hl
  refine lv_aload_n hx hb dX3_isOneOf_0 rfl (lv_at hl 0 rfl) ?_
  refine va_get (D := D) (ci := 3) (v := .int fa) (C := RX3) (T := TX3) (N := 7) hx hb hts inT_X3 hown hK.1 hP 0 rfl rfl 6 (by decide) (hts _ k_171) (fun _ h9 => h9) rfl dX3_isOneOf_1 ?_
  refine lv_if_ne (tgt := 30) hx hb dX3_isOneOf_4 (by decide) (fun c_1 => ?_) (fun c_1 => ?_)
  · refine lv_iconst (v := 0) hx hb dX3_isOneOf_30 (by decide) ?_
    exact W.zret (v := 0) hx hb hr (by decide) (fun tt9 ht hW => ⟨⟨(0 : Int32), (), rfl, (lf_X3_isOneOf_4_2 a t en pa sg fa i0 hi0 hsg c_1), trivial⟩, hS.F ht⟩) hS.2.2 dX3_isOneOf_31 hlocks
  · refine lv_aload_n hx hb dX3_isOneOf_7 rfl (lv_at hl 0 rfl) ?_
    refine va_get (D := D) (ci := 3) (v := .int sg) (C := RX3) (T := TX3) (N := 7) hx hb hts inT_X3 hown hK.1 hP 0 rfl rfl 4 (by decide) (hts _ k_169) (fun _ h9 => h9) rfl dX3_isOneOf_8 ?_
    refine lv_if_lt (tgt := 30) hx hb dX3_isOneOf_11 (by decide) (fun c_3 => ?_) (fun c_3 => ?_)
    · refine lv_iconst (v := 0) hx hb dX3_isOneOf_30 (by decide) ?_
      exact W.zret (v := 0) hx hb hr (by decide) (fun tt9 ht hW => ⟨⟨(0 : Int32), (), rfl, (lf_X3_isOneOf_4_4 a t en pa sg fa i0 hi0 hsg c_1 c_3), trivial⟩, hS.F ht⟩) hS.2.2 dX3_isOneOf_31 hlocks
    · obtain ⟨kq, hkq, ekq, lkq⟩ := sg_of hsg c_3
      subst ekq
      refine lv_aload_n hx hb dX3_isOneOf_14 rfl (lv_at hl 1 rfl) ?_
      refine lv_aload_n hx hb dX3_isOneOf_15 rfl (lv_at hl 0 rfl) ?_
      refine va_get (D := D) (ci := 3) (v := .int (nI kq)) (C := RX3) (T := TX3) (N := 7) hx hb hts inT_X3 hown hK.1 hP 0 rfl rfl 4 (by decide) (hts _ k_169) (fun _ h9 => h9) rfl dX3_isOneOf_16 ?_
      refine lv_i2c hx hb dX3_isOneOf_19 (i2c_nI (lf_X3_isOneOf_4_5 a t en pa (nI kq) fa i0 hi0 hsg c_1 c_3 kq hkq rfl lkq)) ?_
      refine eRi (va_runV (As := [.int (nI kq)]) (rest := []) ⟨hx, hb, hml, hown, hts⟩ (c_J0_indexOf1 l D cI cB cZ cJ tx adK adV i0 kq (lf_X3_isOneOf_4_6 a t en pa (nI kq) fa i0 hi0 hsg c_1 c_3 kq hkq rfl lkq) (lf_X3_isOneOf_4_7 a t en pa (nI kq) fa i0 hi0 hsg c_1 c_3 kq hkq rfl lkq) H.size) (zV hts k_576 v_J0_indexOf_0f7a4 ⟨Nat.le_of_ble_eq_true rfl, Nat.le_of_ble_eq_true rfl⟩) (pVS (pz (px0 hK) hZ hS (aR hS hA)) hZ (lf_X3_isOneOf_4_8 a t en pa (nI kq) fa i0 hi0 hsg c_1 c_3 kq hkq rfl lkq) hS) rfl rfl hl.1 rfl (lv_room (Nat.le_of_ble_eq_true rfl)) dX3_isOneOf_20 ⟨Nat.le_of_ble_eq_true rfl, Nat.le_of_ble_eq_true rfl⟩) hP hS hA (fun r_9 H locs wr_9 hP hS => ?_)
      refine lv_if_lt (tgt := 30) hx hb dX3_isOneOf_23 (by decide) (fun c_10 => ?_) (fun c_10 => ?_)
      · refine lv_iconst (v := 0) hx hb dX3_isOneOf_30 (by decide) ?_
        exact W.zret (v := 0) hx hb hr (by decide) (fun tt9 ht hW => ⟨⟨(0 : Int32), (), rfl, (lf_X3_isOneOf_4_11 a t en pa (nI kq) fa i0 hi0 hsg c_1 c_3 kq hkq rfl lkq r_9 wr_9 c_10), trivial⟩, hS.F ht⟩) hS.2.2 dX3_isOneOf_31 hlocks
      · refine lv_iconst (v := 1) hx hb dX3_isOneOf_26 (by decide) ?_
        refine lv_goto (tgt := 31) hx hb dX3_isOneOf_27 (by decide) ?_
        exact W.zret (v := 1) hx hb hr (by decide) (fun tt9 ht hW => ⟨⟨(1 : Int32), (), rfl, (lf_X3_isOneOf_4_12 a t en pa (nI kq) fa i0 hi0 hsg c_1 c_3 kq hkq rfl lkq r_9 wr_9 c_10), trivial⟩, hS.F ht⟩) hS.2.2 dX3_isOneOf_31 hlocks

theorem lf_X3_take_4_1 (a : Nat → Nat) (t : Nat → Nat) (en : Nat) (pa : Nat) (sg : Int32) (fa : Int32) (tu : Nat) (tb : Nat → Int32) (i0 : Nat) (hi0 : i0 < 16) (htu : tu ≤ 220) (hen : en ≤ 200) (hpa : pa ≤ en) (hsg : SG sg pa en) : i0 < 16 := by
  first | assumption | omega | decide | exact sg_nI (by assumption) (by assumption)
theorem lf_X3_take_4_2 (a : Nat → Nat) (t : Nat → Nat) (en : Nat) (pa : Nat) (sg : Int32) (fa : Int32) (tu : Nat) (tb : Nat → Int32) (i0 : Nat) (hi0 : i0 < 16) (htu : tu ≤ 220) (hen : en ≤ 200) (hpa : pa ≤ en) (hsg : SG sg pa en) : SG sg pa en := by
  first | assumption | omega | decide | exact sg_nI (by assumption) (by assumption)
theorem lf_X3_take_4_6 (a : Nat → Nat) (t : Nat → Nat) (en : Nat) (pa : Nat) (sg : Int32) (fa : Int32) (tu : Nat) (tb : Nat → Int32) (i0 : Nat) (hi0 : i0 < 16) (htu : tu ≤ 220) (hen : en ≤ 200) (hpa : pa ≤ en) (hsg : SG sg pa en) (fa_5 : Int32) : (pa ≤ (pa : Nat)) ∧ ((pa : Nat) ≤ en) ∧ (SG (sg : Int32) (pa : Nat) en) := by
  first | (refine ⟨?_, ?_, ?_⟩ <;> first | omega | assumption) | (refine ⟨?_, ?_, ?_, ?_⟩ <;> first | omega | assumption)
theorem lf_X3_take_4_7 (a : Nat → Nat) (t : Nat → Nat) (en : Nat) (pa : Nat) (sg : Int32) (fa : Int32) (tu : Nat) (tb : Nat → Int32) (i0 : Nat) (hi0 : i0 < 16) (htu : tu ≤ 220) (hen : en ≤ 200) (hpa : pa ≤ en) (hsg : SG sg pa en) (kk3 : Nat) (hkk3 : kk3 < 256) (lkk3 : pa < en) (skk3 : sHas i0 kk3 = true) : tu ≤ 220 := by
  first | assumption | omega | decide | exact sg_nI (by assumption) (by assumption)
theorem lf_X3_take_4_8 (a : Nat → Nat) (t : Nat → Nat) (en : Nat) (pa : Nat) (sg : Int32) (fa : Int32) (tu : Nat) (tb : Nat → Int32) (i0 : Nat) (hi0 : i0 < 16) (htu : tu ≤ 220) (hen : en ≤ 200) (hpa : pa ≤ en) (hsg : SG sg pa en) (kk3 : Nat) (hkk3 : kk3 < 256) (lkk3 : pa < en) (skk3 : sHas i0 kk3 = true) : en ≤ 200 := by
  first | assumption | omega | decide | exact sg_nI (by assumption) (by assumption)
theorem lf_X3_take_4_9 (a : Nat → Nat) (t : Nat → Nat) (en : Nat) (pa : Nat) (sg : Int32) (fa : Int32) (tu : Nat) (tb : Nat → Int32) (i0 : Nat) (hi0 : i0 < 16) (htu : tu ≤ 220) (hen : en ≤ 200) (hpa : pa ≤ en) (hsg : SG sg pa en) (kk3 : Nat) (hkk3 : kk3 < 256) (lkk3 : pa < en) (skk3 : sHas i0 kk3 = true) : pa ≤ en := by
  first | assumption | omega | decide | exact sg_nI (by assumption) (by assumption)
theorem lf_X3_take_4_10 (a : Nat → Nat) (t : Nat → Nat) (en : Nat) (pa : Nat) (sg : Int32) (fa : Int32) (tu : Nat) (tb : Nat → Int32) (i0 : Nat) (hi0 : i0 < 16) (htu : tu ≤ 220) (hen : en ≤ 200) (hpa : pa ≤ en) (hsg : SG sg pa en) (kk3 : Nat) (hkk3 : kk3 < 256) (lkk3 : pa < en) (skk3 : sHas i0 kk3 = true) : pa < en := by
  first | assumption | omega | decide | exact sg_nI (by assumption) (by assumption)
theorem lf_X3_take_4_13 (a : Nat → Nat) (t : Nat → Nat) (en : Nat) (pa : Nat) (sg : Int32) (fa : Int32) (tu : Nat) (tb : Nat → Int32) (i0 : Nat) (hi0 : i0 < 16) (htu : tu ≤ 220) (hen : en ≤ 200) (hpa : pa ≤ en) (hsg : SG sg pa en) (kk3 : Nat) (hkk3 : kk3 < 256) (lkk3 : pa < en) (skk3 : sHas i0 kk3 = true) (pa_12 : Nat) (sg_12 : Int32) (hz_12_0 : pa_12 = pa + 1) (hz_12_1 : pa_12 ≤ en) (hz_12_2 : SG sg_12 pa_12 en) : (pa ≤ (pa_12 : Nat)) ∧ ((pa_12 : Nat) ≤ en) ∧ (SG (sg_12 : Int32) (pa_12 : Nat) en) := by
  first | (refine ⟨?_, ?_, ?_⟩ <;> first | omega | assumption) | (refine ⟨?_, ?_, ?_, ?_⟩ <;> first | omega | assumption)
set_option maxHeartbeats 4000000 in
set_option maxRecDepth 100000 in
theorem c_X3_take_4 (l : Launch) (D : va_G) (cI cB cZ cJ : ClassId) (tx : List (ClassId × FieldType)) (adK adV : Nat → Nat) (a : Nat → Nat) (t : Nat → Nat) (en : Nat) (pa : Nat) (sg : Int32) (fa : Int32) (tu : Nat) (tb : Nat → Int32) (i0 : Nat) (hi0 : i0 < 16) (htu : tu ≤ 220) (hen : en ≤ 200) (hpa : pa ≤ en) (hsg : SG sg pa en) : WzV l D cI cB cZ cJ tx adK adV yX3_take cX3_take 2 none 5 0 0 [.ref (a 2), .ref (adK i0)] [(a 2, .inr (3, [.ref (a 1), .ref (t 0), .int (nI en), .int (nI pa), .int sg, .int 4, .int fa])), (a 1, .inr (8, [.ref (a 17), .int (nI tu)])), (a 17, .inl (cB, 220, .inl tb))] (fun (v : (Nat) × (Int32) × (Int32)) => (pa ≤ v.1) ∧ (v.1 ≤ en) ∧ (SG v.2.1 v.1 en)) (fun v => [(a 2, .inr (3, [.ref (a 1), .ref (t 0), .int (nI en), .int (nI (v.1)), .int v.2.1, .int 4, .int v.2.2])), (a 1, .inr (8, [.ref (a 17), .int (nI tu)])), (a 17, .inl (cB, 220, .inl tb))]) := by
  refine wzv_of2 (by decide +kernel) (Nat.le_of_ble_eq_true rfl) ?_
  intro p e s m below meth c A ls H locs hC hK hZ hP hD hA hS hl
  obtain ⟨hx, hb, hr, hml, hown, hts, hlocks, hin⟩ := hC
  have hown : s.vm.findClass RX3 = some m.cls := hown
  have hl : lv_has ls 2 [(0, .ref (a 2)), (1, .ref (adK i0))] := hl
  refine lv_aload_n hx hb dX3_take_0 rfl (lv_at hl 0 rfl) ?_
  refine lv_aload_n hx hb dX3_take_1 rfl (lv_at hl 1 rfl) ?_
  refine eRi (va_runV (As := [.ref (adK i0)]) (rest := []) ⟨hx, hb, hml, hown, hts⟩ (c_X3_isOneOf_4 l D cI cB cZ cJ tx adK adV a t en pa sg fa i0 (lf_X3_take_4_1 a t en pa sg fa tu tb i0 hi0 htu hen hpa hsg) (lf_X3_take_4_2 a t en pa sg fa tu tb i0 hi0 htu hen hpa hsg) H.size) (zV hts k_572 v_X3_isOneOf ⟨Nat.le_of_ble_eq_true rfl, Nat.le_of_ble_eq_true rfl⟩) (pV (pz (px1 hK hP 0 rfl) hZ hS (aR hS hA)) hK hP 0 rfl rfl) rfl rfl hl.1 rfl (lv_room (Nat.le_of_ble_eq_true rfl)) dX3_take_2 ⟨Nat.le_of_ble_eq_true rfl, Nat.le_of_ble_eq_true rfl⟩) hP hS hA (fun r_3 H locs wr_3 hP hS => ?_)
  rcases wr_3 with rfl | ⟨rfl, kk3, hkk3, rfl, lkk3, skk3⟩
  · refine lv_if_eq (tgt := 15) hx hb dX3_take_5 (by decide) (fun _ => ?_) (fun c => absurd c (by decide))
    refine lv_aload_n hx hb dX3_take_15 rfl (lv_at hl 0 rfl) ?_
    refine lv_iconst (v := 1) hx hb dX3_take_16 (by decide) ?_
    refine eWv (wr := [(a 1, .inr (8, [.ref (a 17), .int (nI tu)])), (a 17, .inl (cB, 220, .inl tb))]) (va_runV (As := [.int 1]) (rest := []) ⟨hx, hb, hml, hown, hts⟩ (c_X3_refuse_4 l D cI cB cZ cJ tx a t en pa sg fa 1 H.size) (zV hts k_662 v_X3_refuse ⟨Nat.le_of_ble_eq_true rfl, Nat.le_of_ble_eq_true rfl⟩) (pV (pxS hK hP hD [0] (by decide) rfl) hK hP 0 rfl rfl) rfl rfl hl.1 rfl (lv_room (Nat.le_of_ble_eq_true rfl)) dX3_take_17 ⟨Nat.le_of_ble_eq_true rfl, Nat.le_of_ble_eq_true rfl⟩) hP hD hS hA [0] [1, 2] rfl rfl (by decide) (by decide) (fun u_5 H locs wr_4 hP hD hS => ?_)
    obtain ⟨fa_5, rfl⟩ : ∃ z, z = u_5 := ⟨_, rfl⟩
    have hP : va_P D vwCl [(a 1, .inr (8, [.ref (a 17), .int (nI tu)])), (a 17, .inl (cB, 220, .inl tb)), (a 2, .inr (3, [.ref (a 1), .ref (t 0), .int (nI en), .int (nI pa), .int sg, .int 4, .int fa_5]))] H := hP
    have hD : va_D A [(a 1, .inr (8, [.ref (a 17), .int (nI tu)])), (a 17, .inl (cB, 220, .inl tb)), (a 2, .inr (3, [.ref (a 1), .ref (t 0), .int (nI en), .int (nI pa), .int sg, .int 4, .int fa_5]))] := hD
    have hP := hP.sub (ws' := [(a 2, .inr (3, [.ref (a 1), .ref (t 0), .int (nI en), .int (nI pa), .int sg, .int 4, .int fa_5])), (a 1, .inr (8, [.ref (a 17), .int (nI tu)])), (a 17, .inl (cB, 220, .inl tb))]) [2, 0, 1] rfl
    have hD := hD.sub (ws' := [(a 2, .inr (3, [.ref (a 1), .ref (t 0), .int (nI en), .int (nI pa), .int sg, .int 4, .int fa_5])), (a 1, .inr (8, [.ref (a 17), .int (nI tu)])), (a 17, .inl (cB, 220, .inl tb))]) [2, 0, 1] (by decide) rfl
    exact W.vret hx hb hr (fun tt9 ht hW => ⟨⟨((pa : Nat), (sg : Int32), (fa_5 : Int32)), rfl, (lf_X3_take_4_6 a t en pa sg fa tu tb i0 hi0 htu hen hpa hsg fa_5), ⟨by rw [ht]; exact hP, hD⟩⟩, hS.F ht⟩) hS.2.2 dX3_take_20 hlocks
  · refine lv_if_eq (tgt := 15) hx hb dX3_take_5 (by decide) (fun c => absurd c (by decide)) (fun _ => ?_)
    refine lv_aload_n hx hb dX3_take_8 rfl (lv_at hl 0 rfl) ?_
    refine eWv (wr := []) (va_runV (As := []) (rest := []) ⟨hx, hb, hml, hown, hts⟩ (c_X3_advance_4 l D cI cB cZ cJ tx a t en pa (nI kk3) fa tu tb (lf_X3_take_4_7 a t en pa (nI kk3) fa tu tb i0 hi0 htu hen hpa hsg kk3 hkk3 lkk3 skk3) (lf_X3_take_4_8 a t en pa (nI kk3) fa tu tb i0 hi0 htu hen hpa hsg kk3 hkk3 lkk3 skk3) (lf_X3_take_4_9 a t en pa (nI kk3) fa tu tb i0 hi0 htu hen hpa hsg kk3 hkk3 lkk3 skk3) (lf_X3_take_4_10 a t en pa (nI kk3) fa tu tb i0 hi0 htu hen hpa hsg kk3 hkk3 lkk3 skk3) H.size) (zV hts k_670 v_X3_advance ⟨Nat.le_of_ble_eq_true rfl, Nat.le_of_ble_eq_true rfl⟩) (pV (pxS hK hP hD [0, 1, 2] (by decide) rfl) hK hP 0 rfl rfl) rfl rfl hl.1 rfl (lv_room (Nat.le_of_ble_eq_true rfl)) dX3_take_9 ⟨Nat.le_of_ble_eq_true rfl, Nat.le_of_ble_eq_true rfl⟩) hP hD hS hA [0, 1, 2] [] rfl rfl (by decide) (by decide) (fun u_12 H locs wr_11 hP hD hS => ?_)
    obtain ⟨pa_12, sg_12⟩ := u_12
    have hz_12_0 : pa_12 = pa + 1 := wr_11.1
    have hz_12_1 : pa_12 ≤ en := wr_11.2.1
    have hz_12_2 : SG sg_12 pa_12 en := wr_11.2.2
    have hP : va_P D vwCl [(a 2, .inr (3, [.ref (a 1), .ref (t 0), .int (nI en), .int (nI pa_12), .int sg_12, .int 4, .int fa])), (a 1, .inr (8, [.ref (a 17), .int (nI tu)])), (a 17, .inl (cB, 220, .inl tb))] H := hP
    have hD : va_D A [(a 2, .inr (3, [.ref (a 1), .ref (t 0), .int (nI en), .int (nI pa_12), .int sg_12, .int 4, .int fa])), (a 1, .inr (8, [.ref (a 17), .int (nI tu)])), (a 17, .inl (cB, 220, .inl tb))] := hD
    refine lv_goto (tgt := 20) hx hb dX3_take_12 (by decide) ?_
    exact W.vret hx hb hr (fun tt9 ht hW => ⟨⟨((pa_12 : Nat), (sg_12 : Int32), (fa : Int32)), rfl, (lf_X3_take_4_13 a t en pa (nI kk3) fa tu tb i0 hi0 htu hen hpa hsg kk3 hkk3 lkk3 skk3 pa_12 sg_12 hz_12_0 hz_12_1 hz_12_2), ⟨by rw [ht]; exact hP, hD⟩⟩, hS.F ht⟩) hS.2.2 dX3_take_20 hlocks

theorem lf_X3_advance_5_3 (a : Nat → Nat) (t : Nat → Nat) (en : Nat) (pa : Nat) (sg : Int32) (fa : Int32) (tu : Nat) (tb : Nat → Int32) (htu : tu ≤ 220) (hen : en ≤ 200) (hpa : pa ≤ en) (hlt : pa < en) (c_1 : nI en ≤ nI (pa + 1)) : en ≤ (pa + 1) := by
  exact (nI_leI (a := en) (b := (pa + 1)) (by omega) (by omega)).mp c_1
theorem lf_X3_advance_5_4 (a : Nat → Nat) (t : Nat → Nat) (en : Nat) (pa : Nat) (sg : Int32) (fa : Int32) (tu : Nat) (tb : Nat → Int32) (htu : tu ≤ 220) (hen : en ≤ 200) (hpa : pa ≤ en) (hlt : pa < en) (c_1 : nI en ≤ nI (pa + 1)) (n_2 : en ≤ (pa + 1)) : (((pa + 1) : Nat) = pa + 1) ∧ (((pa + 1) : Nat) ≤ en) ∧ (SG ((-1) : Int32) ((pa + 1) : Nat) en) := by
  first
    | exact ⟨rfl, by omega, Or.inl rfl⟩
    | exact ⟨rfl, by omega, sg_mk (by assumption) (by omega)⟩
theorem lf_X3_advance_5_6 (a : Nat → Nat) (t : Nat → Nat) (en : Nat) (pa : Nat) (sg : Int32) (fa : Int32) (tu : Nat) (tb : Nat → Int32) (htu : tu ≤ 220) (hen : en ≤ 200) (hpa : pa ≤ en) (hlt : pa < en) (c_1 : ¬ nI en ≤ nI (pa + 1)) : (pa + 1) < en := by
  exact Nat.lt_of_not_le (fun q => c_1 ((nI_leI (a := en) (b := (pa + 1)) (by omega) (by omega)).mpr q))
theorem lf_X3_advance_5_7 (a : Nat → Nat) (t : Nat → Nat) (en : Nat) (pa : Nat) (sg : Int32) (fa : Int32) (tu : Nat) (tb : Nat → Int32) (htu : tu ≤ 220) (hen : en ≤ 200) (hpa : pa ≤ en) (hlt : pa < en) (c_1 : ¬ nI en ≤ nI (pa + 1)) (n_5 : (pa + 1) < en) : tu ≤ 220 := by
  first | assumption | omega | decide
theorem lf_X3_advance_5_9 (a : Nat → Nat) (t : Nat → Nat) (en : Nat) (pa : Nat) (sg : Int32) (fa : Int32) (tu : Nat) (tb : Nat → Int32) (htu : tu ≤ 220) (hen : en ≤ 200) (hpa : pa ≤ en) (hlt : pa < en) (c_1 : ¬ nI en ≤ nI (pa + 1)) (n_5 : (pa + 1) < en) (r_8 : Int32) (wr_8 : (r_8 = -1 ∨ ∃ k : Nat, k < 256 ∧ r_8 = nI k)) : (((pa + 1) : Nat) = pa + 1) ∧ (((pa + 1) : Nat) ≤ en) ∧ (SG (r_8 : Int32) ((pa + 1) : Nat) en) := by
  first
    | exact ⟨rfl, by omega, Or.inl rfl⟩
    | exact ⟨rfl, by omega, sg_mk (by assumption) (by omega)⟩
set_option maxHeartbeats 4000000 in
set_option maxRecDepth 100000 in
theorem c_X3_advance_5 (l : Launch) (D : va_G) (cI cB cZ cJ : ClassId) (tx : List (ClassId × FieldType)) (a : Nat → Nat) (t : Nat → Nat) (en : Nat) (pa : Nat) (sg : Int32) (fa : Int32) (tu : Nat) (tb : Nat → Int32) (htu : tu ≤ 220) (hen : en ≤ 200) (hpa : pa ≤ en) (hlt : pa < en) : WrV l D cI cB cZ cJ tx yX3_advance cX3_advance 1 none 1 0 0 [.ref (a 2)] [(a 2, .inr (3, [.ref (a 1), .ref (t 0), .int (nI en), .int (nI pa), .int sg, .int 5, .int fa])), (a 1, .inr (8, [.ref (a 17), .int (nI tu)])), (a 17, .inl (cB, 220, .inl tb))] (fun (v : (Nat) × (Int32)) => (v.1 = pa + 1) ∧ (v.1 ≤ en) ∧ (SG v.2 v.1 en)) (fun v => [(a 2, .inr (3, [.ref (a 1), .ref (t 0), .int (nI en), .int (nI (v.1)), .int v.2, .int 5, .int fa])), (a 1, .inr (8, [.ref (a 17), .int (nI tu)])), (a 17, .inl (cB, 220, .inl tb))]) := by
  refine wrv_of2 (by decide) (Nat.le_of_ble_eq_true rfl) ?_
  intro p e s m below meth c A ls H locs hC hK hP hD hA hS hl
  obtain ⟨hx, hb, hr, hml, hown, hts, hlocks, hin⟩ := hC
  have hown : s.vm.findClass RX3 = some m.cls := hown
  have hl : lv_has ls 1 [(0, .ref (a 2))] := hl
  refine lv_aload_n hx hb dX3_advance_0 rfl (lv_at hl 0 rfl) ?_
  refine lv_dup hx hb dX3_advance_1 rfl ?_
  refine va_get (D := D) (ci := 3) (v := .int (nI pa)) (C := RX3) (T := TX3) (N := 7) hx hb hts inT_X3 hown hK.1 hP 0 rfl rfl 3 (by decide) (hts _ k_168) (fun _ h9 => h9) rfl dX3_advance_2 ?_
  refine lv_iconst (v := 1) hx hb dX3_advance_5 (by decide) ?_
  refine lv_iadd hx hb dX3_advance_6 ?_
  refine lv_topv (y := nI (pa + 1)) (nI_add pa 1) ?_
  refine va_put (D := D) (ci := 3) (v := .int (nI (pa + 1))) (ty := .int) (C := RX3) (T := TX3) (N := 7) hx hb hts inT_X3 tyX3 tyX3_ok nmX3 hown hK.1 hP hD hS 0 rfl rfl 3 (by decide) (hts _ k_168) (fun _ h9 => h9) rfl (by decide +kernel) rfl rfl (Nat.le_of_ble_eq_true rfl) dX3_advance_7 (fun H locs hP hD hS => ?_)
  have hP : va_P D vwCl [(a 2, .inr (3, [.ref (a 1), .ref (t 0), .int (nI en), .int (nI (pa + 1)), .int sg, .int 5, .int fa])), (a 1, .inr (8, [.ref (a 17), .int (nI tu)])), (a 17, .inl (cB, 220, .inl tb))] H := hP
  have hD : va_D A [(a 2, .inr (3, [.ref (a 1), .ref (t 0), .int (nI en), .int (nI (pa + 1)), .int sg, .int 5, .int fa])), (a 1, .inr (8, [.ref (a 17), .int (nI tu)])), (a 17, .inl (cB, 220, .inl tb))] := hD
  refine lv_aload_n hx hb dX3_advance_10 rfl (lv_at hl 0 rfl) ?_
  refine lv_aload_n hx hb dX3_advance_11 rfl (lv_at hl 0 rfl) ?_
  refine va_get (D := D) (ci := 3) (v := .int (nI (pa + 1))) (C := RX3) (T := TX3) (N := 7) hx hb hts inT_X3 hown hK.1 hP 0 rfl rfl 3 (by decide) (hts _ k_168) (fun _ h9 => h9) rfl dX3_advance_12 ?_
  refine lv_aload_n hx hb dX3_advance_15 rfl (lv_at hl 0 rfl) ?_
  refine va_get (D := D) (ci := 3) (v := .int (nI en)) (C := RX3) (T := TX3) (N := 7) hx hb hts inT_X3 hown hK.1 hP 0 rfl rfl 2 (by decide) (hts _ k_167) (fun _ h9 => h9) rfl dX3_advance_16 ?_
  refine lv_icmp_ge (tgt := 36) hx hb dX3_advance_19 (by decide) (fun c_1 => ?_) (fun c_1 => ?_)
  · have n_2 : en ≤ (pa + 1) := (lf_X3_advance_5_3 a t en pa sg fa tu tb htu hen hpa hlt c_1)
    refine lv_iconst (v := (-1)) hx hb dX3_advance_36 (by decide) ?_
    refine va_put (D := D) (ci := 3) (v := .int (-1)) (ty := .int) (C := RX3) (T := TX3) (N := 7) hx hb hts inT_X3 tyX3 tyX3_ok nmX3 hown hK.1 hP hD hS 0 rfl rfl 4 (by decide) (hts _ k_169) (fun _ h9 => h9) rfl (by decide +kernel) rfl rfl (Nat.le_of_ble_eq_true rfl) dX3_advance_37 (fun H locs hP hD hS => ?_)
    have hP : va_P D vwCl [(a 2, .inr (3, [.ref (a 1), .ref (t 0), .int (nI en), .int (nI (pa + 1)), .int (-1), .int 5, .int fa])), (a 1, .inr (8, [.ref (a 17), .int (nI tu)])), (a 17, .inl (cB, 220, .inl tb))] H := hP
    have hD : va_D A [(a 2, .inr (3, [.ref (a 1), .ref (t 0), .int (nI en), .int (nI (pa + 1)), .int (-1), .int 5, .int fa])), (a 1, .inr (8, [.ref (a 17), .int (nI tu)])), (a 17, .inl (cB, 220, .inl tb))] := hD
    exact W.vret hx hb hr (fun tt9 ht hW => ⟨⟨(((pa + 1) : Nat), ((-1) : Int32)), rfl, (lf_X3_advance_5_4 a t en pa sg fa tu tb htu hen hpa hlt c_1 n_2), ⟨by rw [ht]; exact hP, hD⟩⟩, hS.F ht⟩) hS.2.2 dX3_advance_40 hlocks
  · have n_5 : (pa + 1) < en := (lf_X3_advance_5_6 a t en pa sg fa tu tb htu hen hpa hlt c_1)
    refine lv_aload_n hx hb dX3_advance_22 rfl (lv_at hl 0 rfl) ?_
    refine va_get (D := D) (ci := 3) (v := .ref (a 1)) (C := RX3) (T := TX3) (N := 7) hx hb hts inT_X3 hown hK.1 hP 0 rfl rfl 0 (by decide) (hts _ k_165) (fun _ h9 => h9) rfl dX3_advance_23 ?_
    refine lv_aload_n hx hb dX3_advance_26 rfl (lv_at hl 0 rfl) ?_
    refine va_get (D := D) (ci := 3) (v := .int (nI (pa + 1))) (C := RX3) (T := TX3) (N := 7) hx hb hts inT_X3 hown hK.1 hP 0 rfl rfl 3 (by decide) (hts _ k_168) (fun _ h9 => h9) rfl dX3_advance_27 ?_
    refine eRi (va_runV (As := [.int (nI (pa + 1))]) (rest := [.ref (a 2)]) ⟨hx, hb, hml, hown, hts⟩ (c_X8_byteAt_b l D cI cB cZ cJ tx a tu tb (nI (pa + 1)) (lf_X3_advance_5_7 a t en pa sg fa tu tb htu hen hpa hlt c_1 n_5) H.size) (zV hts k_564 v_X8_byteAt ⟨Nat.le_of_ble_eq_true rfl, Nat.le_of_ble_eq_true rfl⟩) (pV (pxS hK hP hD [1, 2] (by decide) rfl) hK hP 1 rfl rfl) rfl rfl hl.1 rfl (lv_room (Nat.le_of_ble_eq_true rfl)) dX3_advance_30 ⟨Nat.le_of_ble_eq_true rfl, Nat.le_of_ble_eq_true rfl⟩) hP hS hA (fun r_8 H locs wr_8 hP hS => ?_)
    refine lv_goto (tgt := 37) hx hb dX3_advance_33 (by decide) ?_
    refine va_put (D := D) (ci := 3) (v := .int r_8) (ty := .int) (C := RX3) (T := TX3) (N := 7) hx hb hts inT_X3 tyX3 tyX3_ok nmX3 hown hK.1 hP hD hS 0 rfl rfl 4 (by decide) (hts _ k_169) (fun _ h9 => h9) rfl (by decide +kernel) rfl rfl (Nat.le_of_ble_eq_true rfl) dX3_advance_37 (fun H locs hP hD hS => ?_)
    have hP : va_P D vwCl [(a 2, .inr (3, [.ref (a 1), .ref (t 0), .int (nI en), .int (nI (pa + 1)), .int r_8, .int 5, .int fa])), (a 1, .inr (8, [.ref (a 17), .int (nI tu)])), (a 17, .inl (cB, 220, .inl tb))] H := hP
    have hD : va_D A [(a 2, .inr (3, [.ref (a 1), .ref (t 0), .int (nI en), .int (nI (pa + 1)), .int r_8, .int 5, .int fa])), (a 1, .inr (8, [.ref (a 17), .int (nI tu)])), (a 17, .inl (cB, 220, .inl tb))] := hD
    exact W.vret hx hb hr (fun tt9 ht hW => ⟨⟨(((pa + 1) : Nat), (r_8 : Int32)), rfl, (lf_X3_advance_5_9 a t en pa sg fa tu tb htu hen hpa hlt c_1 n_5 r_8 wr_8), ⟨by rw [ht]; exact hP, hD⟩⟩, hS.F ht⟩) hS.2.2 dX3_advance_40 hlocks

set_option maxHeartbeats 4000000 in
set_option maxRecDepth 100000 in
theorem c_X3_refuse_5 (l : Launch) (D : va_G) (cI cB cZ cJ : ClassId) (tx : List (ClassId × FieldType)) (a : Nat → Nat) (t : Nat → Nat) (en : Nat) (pa : Nat) (sg : Int32) (fa : Int32) (n1 : Int32) : WrV l D cI cB cZ cJ tx yX3_refuse cX3_refuse 2 none 0 0 0 [.ref (a 2), .int n1] [(a 2, .inr (3, [.ref (a 1), .ref (t 0), .int (nI en), .int (nI pa), .int sg, .int 5, .int fa]))] (fun (v : (Int32)) => True) (fun v => [(a 2, .inr (3, [.ref (a 1), .ref (t 0), .int (nI en), .int (nI pa), .int sg, .int 5, .int v]))]) := by
  refine wrv_of2 (by decide) (Nat.le_of_ble_eq_true rfl) ?_
  intro p e s m below meth c A ls H locs hC hK hP hD hA hS hl
  obtain ⟨hx, hb, hr, hml, hown, hts, hlocks, hin⟩ := hC
  have hown : s.vm.findClass RX3 = some m.cls := hown
  have hl : lv_has ls 2 [(0, .ref (a 2)), (1, .int n1)] := hl
  refine lv_aload_n hx hb dX3_refuse_0 rfl (lv_at hl 0 rfl) ?_
  refine va_get (D := D) (ci := 3) (v := .int fa) (C := RX3) (T := TX3) (N := 7) hx hb hts inT_X3 hown hK.1 hP 0 rfl rfl 6 (by decide) (hts _ k_171) (fun _ h9 => h9) rfl dX3_refuse_1 ?_
  refine lv_if_ne (tgt := 12) hx hb dX3_refuse_4 (by decide) (fun c_1 => ?_) (fun c_1 => ?_)
  · exact W.vret hx hb hr (fun tt9 ht hW => ⟨⟨((fa : Int32)), rfl, trivial, ⟨by rw [ht]; exact hP, hD⟩⟩, hS.F ht⟩) hS.2.2 dX3_refuse_12 hlocks
  · refine lv_aload_n hx hb dX3_refuse_7 rfl (lv_at hl 0 rfl) ?_
    refine lv_iload_n hx hb dX3_refuse_8 rfl (lv_at hl 1 rfl) ?_
    refine va_put (D := D) (ci := 3) (v := .int n1) (ty := .int) (C := RX3) (T := TX3) (N := 7) hx hb hts inT_X3 tyX3 tyX3_ok nmX3 hown hK.1 hP hD hS 0 rfl rfl 6 (by decide) (hts _ k_171) (fun _ h9 => h9) rfl (by decide +kernel) rfl rfl (Nat.le_of_ble_eq_true rfl) dX3_refuse_9 (fun H locs hP hD hS => ?_)
    have hP : va_P D vwCl [(a 2, .inr (3, [.ref (a 1), .ref (t 0), .int (nI en), .int (nI pa), .int sg, .int 5, .int n1]))] H := hP
    have hD : va_D A [(a 2, .inr (3, [.ref (a 1), .ref (t 0), .int (nI en), .int (nI pa), .int sg, .int 5, .int n1]))] := hD
    exact W.vret hx hb hr (fun tt9 ht hW => ⟨⟨((n1 : Int32)), rfl, trivial, ⟨by rw [ht]; exact hP, hD⟩⟩, hS.F ht⟩) hS.2.2 dX3_refuse_12 hlocks

theorem lf_X3_isOneOf_5_2 (a : Nat → Nat) (t : Nat → Nat) (en : Nat) (pa : Nat) (sg : Int32) (fa : Int32) (i0 : Nat) (hi0 : i0 < 16) (hsg : SG sg pa en) (c_1 : ¬ fa = 0) : ((0 : Int32) = 0) ∨ ((0 : Int32) = 1 ∧ ∃ k : Nat, k < 256 ∧ sg = nI k ∧ pa < en ∧ sHas i0 k = true) := by
  first
    | exact Or.inl rfl
    | exact Or.inr ⟨rfl, kq, hkq, by assumption, lkq, has_use (by assumption) (by assumption)⟩
theorem lf_X3_isOneOf_5_4 (a : Nat → Nat) (t : Nat → Nat) (en : Nat) (pa : Nat) (sg : Int32) (fa : Int32) (i0 : Nat) (hi0 : i0 < 16) (hsg : SG sg pa en) (c_1 : fa = 0) (c_3 : sg < 0) : ((0 : Int32) = 0) ∨ ((0 : Int32) = 1 ∧ ∃ k : Nat, k < 256 ∧ sg = nI k ∧ pa < en ∧ sHas i0 k = true) := by
  first
    | exact Or.inl rfl
    | exact Or.inr ⟨rfl, kq, hkq, by assumption, lkq, has_use (by assumption) (by assumption)⟩
theorem lf_X3_isOneOf_5_5 (a : Nat → Nat) (t : Nat → Nat) (en : Nat) (pa : Nat) (sg : Int32) (fa : Int32) (i0 : Nat) (hi0 : i0 < 16) (hsg : SG sg pa en) (c_1 : fa = 0) (c_3 : ¬ sg < 0) (kq : Nat) (hkq : kq < 256) (ekq : sg = nI kq) (lkq : pa < en) : kq < 65536 := by
  omega
theorem lf_X3_isOneOf_5_6 (a : Nat → Nat) (t : Nat → Nat) (en : Nat) (pa : Nat) (sg : Int32) (fa : Int32) (i0 : Nat) (hi0 : i0 < 16) (hsg : SG sg pa en) (c_1 : fa = 0) (c_3 : ¬ sg < 0) (kq : Nat) (hkq : kq < 256) (ekq : sg = nI kq) (lkq : pa < en) : i0 < 16 := by
  first | assumption | omega | decide | exact sg_nI (by assumption) (by assumption)
theorem lf_X3_isOneOf_5_7 (a : Nat → Nat) (t : Nat → Nat) (en : Nat) (pa : Nat) (sg : Int32) (fa : Int32) (i0 : Nat) (hi0 : i0 < 16) (hsg : SG sg pa en) (c_1 : fa = 0) (c_3 : ¬ sg < 0) (kq : Nat) (hkq : kq < 256) (ekq : sg = nI kq) (lkq : pa < en) : kq < 256 := by
  first | assumption | omega | decide | exact sg_nI (by assumption) (by assumption)
theorem lf_X3_isOneOf_5_8 (a : Nat → Nat) (t : Nat → Nat) (en : Nat) (pa : Nat) (sg : Int32) (fa : Int32) (i0 : Nat) (hi0 : i0 < 16) (hsg : SG sg pa en) (c_1 : fa = 0) (c_3 : ¬ sg < 0) (kq : Nat) (hkq : kq < 256) (ekq : sg = nI kq) (lkq : pa < en) : i0 < 16 := by
  first | omega | assumption
theorem lf_X3_isOneOf_5_11 (a : Nat → Nat) (t : Nat → Nat) (en : Nat) (pa : Nat) (sg : Int32) (fa : Int32) (i0 : Nat) (hi0 : i0 < 16) (hsg : SG sg pa en) (c_1 : fa = 0) (c_3 : ¬ sg < 0) (kq : Nat) (hkq : kq < 256) (ekq : sg = nI kq) (lkq : pa < en) (r_9 : Int32) (wr_9 : 0 ≤ r_9 → sHas i0 kq = true) (c_10 : r_9 < 0) : ((0 : Int32) = 0) ∨ ((0 : Int32) = 1 ∧ ∃ k : Nat, k < 256 ∧ sg = nI k ∧ pa < en ∧ sHas i0 k = true) := by
  first
    | exact Or.inl rfl
    | exact Or.inr ⟨rfl, kq, hkq, by assumption, lkq, has_use (by assumption) (by assumption)⟩
theorem lf_X3_isOneOf_5_12 (a : Nat → Nat) (t : Nat → Nat) (en : Nat) (pa : Nat) (sg : Int32) (fa : Int32) (i0 : Nat) (hi0 : i0 < 16) (hsg : SG sg pa en) (c_1 : fa = 0) (c_3 : ¬ sg < 0) (kq : Nat) (hkq : kq < 256) (ekq : sg = nI kq) (lkq : pa < en) (r_9 : Int32) (wr_9 : 0 ≤ r_9 → sHas i0 kq = true) (c_10 : ¬ r_9 < 0) : ((1 : Int32) = 0) ∨ ((1 : Int32) = 1 ∧ ∃ k : Nat, k < 256 ∧ sg = nI k ∧ pa < en ∧ sHas i0 k = true) := by
  first
    | exact Or.inl rfl
    | exact Or.inr ⟨rfl, kq, hkq, by assumption, lkq, has_use (by assumption) (by assumption)⟩
set_option maxHeartbeats 4000000 in
set_option maxRecDepth 100000 in
theorem c_X3_isOneOf_5 (l : Launch) (D : va_G) (cI cB cZ cJ : ClassId) (tx : List (ClassId × FieldType)) (adK adV : Nat → Nat) (a : Nat → Nat) (t : Nat → Nat) (en : Nat) (pa : Nat) (sg : Int32) (fa : Int32) (i0 : Nat) (hi0 : i0 < 16) (hsg : SG sg pa en) : RzI l D cI cB cZ cJ tx adK adV yX3_isOneOf cX3_isOneOf 2 (some .boolean) 4 [.ref (a 2), .ref (adK i0)] [(a 2, .inr (3, [.ref (a 1), .ref (t 0), .int (nI en), .int (nI pa), .int sg, .int 5, .int fa]))] (fun r => (r = 0) ∨ (r = 1 ∧ ∃ k : Nat, k < 256 ∧ sg = nI k ∧ pa < en ∧ sHas i0 k = true)) := by
  refine rzi_of2 (by decide +kernel) (Nat.le_of_ble_eq_true rfl) ?_
  intro p e s m below meth c A ls H locs hC hK hZ hP hD hA hS hl
  obtain ⟨hx, hb, hr, hml, hown, hts, hlocks, hin⟩ := hC
  have hown : s.vm.findClass RX3 = some m.cls := hown
  have hl : lv_has ls 2 [(0, .ref (a 2)), (1, .ref (adK i0))] := hl
  refine lv_aload_n hx hb dX3_isOneOf_0 rfl (lv_at hl 0 rfl) ?_
  refine va_get (D := D) (ci := 3) (v := .int fa) (C := RX3) (T := TX3) (N := 7) hx hb hts inT_X3 hown hK.1 hP 0 rfl rfl 6 (by decide) (hts _ k_171) (fun _ h9 => h9) rfl dX3_isOneOf_1 ?_
  refine lv_if_ne (tgt := 30) hx hb dX3_isOneOf_4 (by decide) (fun c_1 => ?_) (fun c_1 => ?_)
  · refine lv_iconst (v := 0) hx hb dX3_isOneOf_30 (by decide) ?_
    exact W.zret (v := 0) hx hb hr (by decide) (fun tt9 ht hW => ⟨⟨(0 : Int32), (), rfl, (lf_X3_isOneOf_5_2 a t en pa sg fa i0 hi0 hsg c_1), trivial⟩, hS.F ht⟩) hS.2.2 dX3_isOneOf_31 hlocks
  · refine lv_aload_n hx hb dX3_isOneOf_7 rfl (lv_at hl 0 rfl) ?_
    refine va_get (D := D) (ci := 3) (v := .int sg) (C := RX3) (T := TX3) (N := 7) hx hb hts inT_X3 hown hK.1 hP 0 rfl rfl 4 (by decide) (hts _ k_169) (fun _ h9 => h9) rfl dX3_isOneOf_8 ?_
    refine lv_if_lt (tgt := 30) hx hb dX3_isOneOf_11 (by decide) (fun c_3 => ?_) (fun c_3 => ?_)
    · refine lv_iconst (v := 0) hx hb dX3_isOneOf_30 (by decide) ?_
      exact W.zret (v := 0) hx hb hr (by decide) (fun tt9 ht hW => ⟨⟨(0 : Int32), (), rfl, (lf_X3_isOneOf_5_4 a t en pa sg fa i0 hi0 hsg c_1 c_3), trivial⟩, hS.F ht⟩) hS.2.2 dX3_isOneOf_31 hlocks
    · obtain ⟨kq, hkq, ekq, lkq⟩ := sg_of hsg c_3
      subst ekq
      refine lv_aload_n hx hb dX3_isOneOf_14 rfl (lv_at hl 1 rfl) ?_
      refine lv_aload_n hx hb dX3_isOneOf_15 rfl (lv_at hl 0 rfl) ?_
      refine va_get (D := D) (ci := 3) (v := .int (nI kq)) (C := RX3) (T := TX3) (N := 7) hx hb hts inT_X3 hown hK.1 hP 0 rfl rfl 4 (by decide) (hts _ k_169) (fun _ h9 => h9) rfl dX3_isOneOf_16 ?_
      refine lv_i2c hx hb dX3_isOneOf_19 (i2c_nI (lf_X3_isOneOf_5_5 a t en pa (nI kq) fa i0 hi0 hsg c_1 c_3 kq hkq rfl lkq)) ?_
      refine eRi (va_runV (As := [.int (nI kq)]) (rest := []) ⟨hx, hb, hml, hown, hts⟩ (c_J0_indexOf1 l D cI cB cZ cJ tx adK adV i0 kq (lf_X3_isOneOf_5_6 a t en pa (nI kq) fa i0 hi0 hsg c_1 c_3 kq hkq rfl lkq) (lf_X3_isOneOf_5_7 a t en pa (nI kq) fa i0 hi0 hsg c_1 c_3 kq hkq rfl lkq) H.size) (zV hts k_576 v_J0_indexOf_0f7a4 ⟨Nat.le_of_ble_eq_true rfl, Nat.le_of_ble_eq_true rfl⟩) (pVS (pz (px0 hK) hZ hS (aR hS hA)) hZ (lf_X3_isOneOf_5_8 a t en pa (nI kq) fa i0 hi0 hsg c_1 c_3 kq hkq rfl lkq) hS) rfl rfl hl.1 rfl (lv_room (Nat.le_of_ble_eq_true rfl)) dX3_isOneOf_20 ⟨Nat.le_of_ble_eq_true rfl, Nat.le_of_ble_eq_true rfl⟩) hP hS hA (fun r_9 H locs wr_9 hP hS => ?_)
      refine lv_if_lt (tgt := 30) hx hb dX3_isOneOf_23 (by decide) (fun c_10 => ?_) (fun c_10 => ?_)
      · refine lv_iconst (v := 0) hx hb dX3_isOneOf_30 (by decide) ?_
        exact W.zret (v := 0) hx hb hr (by decide) (fun tt9 ht hW => ⟨⟨(0 : Int32), (), rfl, (lf_X3_isOneOf_5_11 a t en pa (nI kq) fa i0 hi0 hsg c_1 c_3 kq hkq rfl lkq r_9 wr_9 c_10), trivial⟩, hS.F ht⟩) hS.2.2 dX3_isOneOf_31 hlocks
      · refine lv_iconst (v := 1) hx hb dX3_isOneOf_26 (by decide) ?_
        refine lv_goto (tgt := 31) hx hb dX3_isOneOf_27 (by decide) ?_
        exact W.zret (v := 1) hx hb hr (by decide) (fun tt9 ht hW => ⟨⟨(1 : Int32), (), rfl, (lf_X3_isOneOf_5_12 a t en pa (nI kq) fa i0 hi0 hsg c_1 c_3 kq hkq rfl lkq r_9 wr_9 c_10), trivial⟩, hS.F ht⟩) hS.2.2 dX3_isOneOf_31 hlocks

theorem lf_X3_take_5_1 (a : Nat → Nat) (t : Nat → Nat) (en : Nat) (pa : Nat) (sg : Int32) (fa : Int32) (tu : Nat) (tb : Nat → Int32) (i0 : Nat) (hi0 : i0 < 16) (htu : tu ≤ 220) (hen : en ≤ 200) (hpa : pa ≤ en) (hsg : SG sg pa en) : i0 < 16 := by
  first | assumption | omega | decide | exact sg_nI (by assumption) (by assumption)
theorem lf_X3_take_5_2 (a : Nat → Nat) (t : Nat → Nat) (en : Nat) (pa : Nat) (sg : Int32) (fa : Int32) (tu : Nat) (tb : Nat → Int32) (i0 : Nat) (hi0 : i0 < 16) (htu : tu ≤ 220) (hen : en ≤ 200) (hpa : pa ≤ en) (hsg : SG sg pa en) : SG sg pa en := by
  first | assumption | omega | decide | exact sg_nI (by assumption) (by assumption)
theorem lf_X3_take_5_6 (a : Nat → Nat) (t : Nat → Nat) (en : Nat) (pa : Nat) (sg : Int32) (fa : Int32) (tu : Nat) (tb : Nat → Int32) (i0 : Nat) (hi0 : i0 < 16) (htu : tu ≤ 220) (hen : en ≤ 200) (hpa : pa ≤ en) (hsg : SG sg pa en) (fa_5 : Int32) : (pa ≤ (pa : Nat)) ∧ ((pa : Nat) ≤ en) ∧ (SG (sg : Int32) (pa : Nat) en) := by
  first | (refine ⟨?_, ?_, ?_⟩ <;> first | omega | assumption) | (refine ⟨?_, ?_, ?_, ?_⟩ <;> first | omega | assumption)
theorem lf_X3_take_5_7 (a : Nat → Nat) (t : Nat → Nat) (en : Nat) (pa : Nat) (sg : Int32) (fa : Int32) (tu : Nat) (tb : Nat → Int32) (i0 : Nat) (hi0 : i0 < 16) (htu : tu ≤ 220) (hen : en ≤ 200) (hpa : pa ≤ en) (hsg : SG sg pa en) (kk3 : Nat) (hkk3 : kk3 < 256) (lkk3 : pa < en) (skk3 : sHas i0 kk3 = true) : tu ≤ 220 := by
  first | assumption | omega | decide | exact sg_nI (by assumption) (by assumption)
theorem lf_X3_take_5_8 (a : Nat → Nat) (t : Nat → Nat) (en : Nat) (pa : Nat) (sg : Int32) (fa : Int32) (tu : Nat) (tb : Nat → Int32) (i0 : Nat) (hi0 : i0 < 16) (htu : tu ≤ 220) (hen : en ≤ 200) (hpa : pa ≤ en) (hsg : SG sg pa en) (kk3 : Nat) (hkk3 : kk3 < 256) (lkk3 : pa < en) (skk3 : sHas i0 kk3 = true) : en ≤ 200 := by
  first | assumption | omega | decide | exact sg_nI (by assumption) (by assumption)
theorem lf_X3_take_5_9 (a : Nat → Nat) (t : Nat → Nat) (en : Nat) (pa : Nat) (sg : Int32) (fa : Int32) (tu : Nat) (tb : Nat → Int32) (i0 : Nat) (hi0 : i0 < 16) (htu : tu ≤ 220) (hen : en ≤ 200) (hpa : pa ≤ en) (hsg : SG sg pa en) (kk3 : Nat) (hkk3 : kk3 < 256) (lkk3 : pa < en) (skk3 : sHas i0 kk3 = true) : pa ≤ en := by
  first | assumption | omega | decide | exact sg_nI (by assumption) (by assumption)
theorem lf_X3_take_5_10 (a : Nat → Nat) (t : Nat → Nat) (en : Nat) (pa : Nat) (sg : Int32) (fa : Int32) (tu : Nat) (tb : Nat → Int32) (i0 : Nat) (hi0 : i0 < 16) (htu : tu ≤ 220) (hen : en ≤ 200) (hpa : pa ≤ en) (hsg : SG sg pa en) (kk3 : Nat) (hkk3 : kk3 < 256) (lkk3 : pa < en) (skk3 : sHas i0 kk3 = true) : pa < en := by
  first | assumption | omega | decide | exact sg_nI (by assumption) (by assumption)
theorem lf_X3_take_5_13 (a : Nat → Nat) (t : Nat → Nat) (en : Nat) (pa : Nat) (sg : Int32) (fa : Int32) (tu : Nat) (tb : Nat → Int32) (i0 : Nat) (hi0 : i0 < 16) (htu : tu ≤ 220) (hen : en ≤ 200) (hpa : pa ≤ en) (hsg : SG sg pa en) (kk3 : Nat) (hkk3 : kk3 < 256) (lkk3 : pa < en) (skk3 : sHas i0 kk3 = true) (pa_12 : Nat) (sg_12 : Int32) (hz_12_0 : pa_12 = pa + 1) (hz_12_1 : pa_12 ≤ en) (hz_12_2 : SG sg_12 pa_12 en) : (pa ≤ (pa_12 : Nat)) ∧ ((pa_12 : Nat) ≤ en) ∧ (SG (sg_12 : Int32) (pa_12 : Nat) en) := by
  first | (refine ⟨?_, ?_, ?_⟩ <;> first | omega | assumption) | (refine ⟨?_, ?_, ?_, ?_⟩ <;> first | omega | assumption)
set_option maxHeartbeats 4000000 in
set_option maxRecDepth 100000 in
theorem c_X3_take_5 (l : Launch) (D : va_G) (cI cB cZ cJ : ClassId) (tx : List (ClassId × FieldType)) (adK adV : Nat → Nat) (a : Nat → Nat) (t : Nat → Nat) (en : Nat) (pa : Nat) (sg : Int32) (fa : Int32) (tu : Nat) (tb : Nat → Int32) (i0 : Nat) (hi0 : i0 < 16) (htu : tu ≤ 220) (hen : en ≤ 200) (hpa : pa ≤ en) (hsg : SG sg pa en) : WzV l D cI cB cZ cJ tx adK adV yX3_take cX3_take 2 none 5 0 0 [.ref (a 2), .ref (adK i0)] [(a 2, .inr (3, [.ref (a 1), .ref (t 0), .int (nI en), .int (nI pa), .int sg, .int 5, .int fa])), (a 1, .inr (8, [.ref (a 17), .int (nI tu)])), (a 17, .inl (cB, 220, .inl tb))] (fun (v : (Nat) × (Int32) × (Int32)) => (pa ≤ v.1) ∧ (v.1 ≤ en) ∧ (SG v.2.1 v.1 en)) (fun v => [(a 2, .inr (3, [.ref (a 1), .ref (t 0), .int (nI en), .int (nI (v.1)), .int v.2.1, .int 5, .int v.2.2])), (a 1, .inr (8, [.ref (a 17), .int (nI tu)])), (a 17, .inl (cB, 220, .inl tb))]) := by
  refine wzv_of2 (by decide +kernel) (Nat.le_of_ble_eq_true rfl) ?_
  intro p e s m below meth c A ls H locs hC hK hZ hP hD hA hS hl
  obtain ⟨hx, hb, hr, hml, hown, hts, hlocks, hin⟩ := hC
  have hown : s.vm.findClass RX3 = some m.cls := hown
  have hl : lv_has ls 2 [(0, .ref (a 2)), (1, .ref (adK i0))] := hl
  refine lv_aload_n hx hb dX3_take_0 rfl (lv_at hl 0 rfl) ?_
  refine lv_aload_n hx hb dX3_take_1 rfl (lv_at hl 1 rfl) ?_
  refine eRi (va_runV (As := [.ref (adK i0)]) (rest := []) ⟨hx, hb, hml, hown, hts⟩ (c_X3_isOneOf_5 l D cI cB cZ cJ tx adK adV a t en pa sg fa i0 (lf_X3_take_5_1 a t en pa sg fa tu tb i0 hi0 htu hen hpa hsg) (lf_X3_take_5_2 a t en pa sg fa tu tb i0 hi0 htu hen hpa hsg) H.size) (zV hts k_572 v_X3_isOneOf ⟨Nat.le_of_ble_eq_true rfl, Nat.le_of_ble_eq_true rfl⟩) (pV (pz (px1 hK hP 0 rfl) hZ hS (aR hS hA)) hK hP 0 rfl rfl) rfl rfl hl.1 rfl (lv_room (Nat.le_of_ble_eq_true rfl)) dX3_take_2 ⟨Nat.le_of_ble_eq_true rfl, Nat.le_of_ble_eq_true rfl⟩) hP hS hA (fun r_3 H locs wr_3 hP hS => ?_)
  rcases wr_3 with rfl | ⟨rfl, kk3, hkk3, rfl, lkk3, skk3⟩
  · refine lv_if_eq (tgt := 15) hx hb dX3_take_5 (by decide) (fun _ => ?_) (fun c => absurd c (by decide))
    refine lv_aload_n hx hb dX3_take_15 rfl (lv_at hl 0 rfl) ?_
    refine lv_iconst (v := 1) hx hb dX3_take_16 (by decide) ?_
    refine eWv (wr := [(a 1, .inr (8, [.ref (a 17), .int (nI tu)])), (a 17, .inl (cB, 220, .inl tb))]) (va_runV (As := [.int 1]) (rest := []) ⟨hx, hb, hml, hown, hts⟩ (c_X3_refuse_5 l D cI cB cZ cJ tx a t en pa sg fa 1 H.size) (zV hts k_662 v_X3_refuse ⟨Nat.le_of_ble_eq_true rfl, Nat.le_of_ble_eq_true rfl⟩) (pV (pxS hK hP hD [0] (by decide) rfl) hK hP 0 rfl rfl) rfl rfl hl.1 rfl (lv_room (Nat.le_of_ble_eq_true rfl)) dX3_take_17 ⟨Nat.le_of_ble_eq_true rfl, Nat.le_of_ble_eq_true rfl⟩) hP hD hS hA [0] [1, 2] rfl rfl (by decide) (by decide) (fun u_5 H locs wr_4 hP hD hS => ?_)
    obtain ⟨fa_5, rfl⟩ : ∃ z, z = u_5 := ⟨_, rfl⟩
    have hP : va_P D vwCl [(a 1, .inr (8, [.ref (a 17), .int (nI tu)])), (a 17, .inl (cB, 220, .inl tb)), (a 2, .inr (3, [.ref (a 1), .ref (t 0), .int (nI en), .int (nI pa), .int sg, .int 5, .int fa_5]))] H := hP
    have hD : va_D A [(a 1, .inr (8, [.ref (a 17), .int (nI tu)])), (a 17, .inl (cB, 220, .inl tb)), (a 2, .inr (3, [.ref (a 1), .ref (t 0), .int (nI en), .int (nI pa), .int sg, .int 5, .int fa_5]))] := hD
    have hP := hP.sub (ws' := [(a 2, .inr (3, [.ref (a 1), .ref (t 0), .int (nI en), .int (nI pa), .int sg, .int 5, .int fa_5])), (a 1, .inr (8, [.ref (a 17), .int (nI tu)])), (a 17, .inl (cB, 220, .inl tb))]) [2, 0, 1] rfl
    have hD := hD.sub (ws' := [(a 2, .inr (3, [.ref (a 1), .ref (t 0), .int (nI en), .int (nI pa), .int sg, .int 5, .int fa_5])), (a 1, .inr (8, [.ref (a 17), .int (nI tu)])), (a 17, .inl (cB, 220, .inl tb))]) [2, 0, 1] (by decide) rfl
    exact W.vret hx hb hr (fun tt9 ht hW => ⟨⟨((pa : Nat), (sg : Int32), (fa_5 : Int32)), rfl, (lf_X3_take_5_6 a t en pa sg fa tu tb i0 hi0 htu hen hpa hsg fa_5), ⟨by rw [ht]; exact hP, hD⟩⟩, hS.F ht⟩) hS.2.2 dX3_take_20 hlocks
  · refine lv_if_eq (tgt := 15) hx hb dX3_take_5 (by decide) (fun c => absurd c (by decide)) (fun _ => ?_)
    refine lv_aload_n hx hb dX3_take_8 rfl (lv_at hl 0 rfl) ?_
    refine eWv (wr := []) (va_runV (As := []) (rest := []) ⟨hx, hb, hml, hown, hts⟩ (c_X3_advance_5 l D cI cB cZ cJ tx a t en pa (nI kk3) fa tu tb (lf_X3_take_5_7 a t en pa (nI kk3) fa tu tb i0 hi0 htu hen hpa hsg kk3 hkk3 lkk3 skk3) (lf_X3_take_5_8 a t en pa (nI kk3) fa tu tb i0 hi0 htu hen hpa hsg kk3 hkk3 lkk3 skk3) (lf_X3_take_5_9 a t en pa (nI kk3) fa tu tb i0 hi0 htu hen hpa hsg kk3 hkk3 lkk3 skk3) (lf_X3_take_5_10 a t en pa (nI kk3) fa tu tb i0 hi0 htu hen hpa hsg kk3 hkk3 lkk3 skk3) H.size) (zV hts k_670 v_X3_advance ⟨Nat.le_of_ble_eq_true rfl, Nat.le_of_ble_eq_true rfl⟩) (pV (pxS hK hP hD [0, 1, 2] (by decide) rfl) hK hP 0 rfl rfl) rfl rfl hl.1 rfl (lv_room (Nat.le_of_ble_eq_true rfl)) dX3_take_9 ⟨Nat.le_of_ble_eq_true rfl, Nat.le_of_ble_eq_true rfl⟩) hP hD hS hA [0, 1, 2] [] rfl rfl (by decide) (by decide) (fun u_12 H locs wr_11 hP hD hS => ?_)
    obtain ⟨pa_12, sg_12⟩ := u_12
    have hz_12_0 : pa_12 = pa + 1 := wr_11.1
    have hz_12_1 : pa_12 ≤ en := wr_11.2.1
    have hz_12_2 : SG sg_12 pa_12 en := wr_11.2.2
    have hP : va_P D vwCl [(a 2, .inr (3, [.ref (a 1), .ref (t 0), .int (nI en), .int (nI pa_12), .int sg_12, .int 5, .int fa])), (a 1, .inr (8, [.ref (a 17), .int (nI tu)])), (a 17, .inl (cB, 220, .inl tb))] H := hP
    have hD : va_D A [(a 2, .inr (3, [.ref (a 1), .ref (t 0), .int (nI en), .int (nI pa_12), .int sg_12, .int 5, .int fa])), (a 1, .inr (8, [.ref (a 17), .int (nI tu)])), (a 17, .inl (cB, 220, .inl tb))] := hD
    refine lv_goto (tgt := 20) hx hb dX3_take_12 (by decide) ?_
    exact W.vret hx hb hr (fun tt9 ht hW => ⟨⟨((pa_12 : Nat), (sg_12 : Int32), (fa : Int32)), rfl, (lf_X3_take_5_13 a t en pa (nI kk3) fa tu tb i0 hi0 htu hen hpa hsg kk3 hkk3 lkk3 skk3 pa_12 sg_12 hz_12_0 hz_12_1 hz_12_2), ⟨by rw [ht]; exact hP, hD⟩⟩, hS.F ht⟩) hS.2.2 dX3_take_20 hlocks

theorem lf_X3_advance_6_3 (a : Nat → Nat) (t : Nat → Nat) (en : Nat) (pa : Nat) (sg : Int32) (fa : Int32) (tu : Nat) (tb : Nat → Int32) (htu : tu ≤ 220) (hen : en ≤ 200) (hpa : pa ≤ en) (hlt : pa < en) (c_1 : nI en ≤ nI (pa + 1)) : en ≤ (pa + 1) := by
  exact (nI_leI (a := en) (b := (pa + 1)) (by omega) (by omega)).mp c_1
theorem lf_X3_advance_6_4 (a : Nat → Nat) (t : Nat → Nat) (en : Nat) (pa : Nat) (sg : Int32) (fa : Int32) (tu : Nat) (tb : Nat → Int32) (htu : tu ≤ 220) (hen : en ≤ 200) (hpa : pa ≤ en) (hlt : pa < en) (c_1 : nI en ≤ nI (pa + 1)) (n_2 : en ≤ (pa + 1)) : (((pa + 1) : Nat) = pa + 1) ∧ (((pa + 1) : Nat) ≤ en) ∧ (SG ((-1) : Int32) ((pa + 1) : Nat) en) := by
  first
    | exact ⟨rfl, by omega, Or.inl rfl⟩
    | exact ⟨rfl, by omega, sg_mk (by assumption) (by omega)⟩
theorem lf_X3_advance_6_6 (a : Nat → Nat) (t : Nat → Nat) (en : Nat) (pa : Nat) (sg : Int32) (fa : Int32) (tu : Nat) (tb : Nat → Int32) (htu : tu ≤ 220) (hen : en ≤ 200) (hpa : pa ≤ en) (hlt : pa < en) (c_1 : ¬ nI en ≤ nI (pa + 1)) : (pa + 1) < en := by
  exact Nat.lt_of_not_le (fun q => c_1 ((nI_leI (a := en) (b := (pa + 1)) (by omega) (by omega)).mpr q))
theorem lf_X3_advance_6_7 (a : Nat → Nat) (t : Nat → Nat) (en : Nat) (pa : Nat) (sg : Int32) (fa : Int32) (tu : Nat) (tb : Nat → Int32) (htu : tu ≤ 220) (hen : en ≤ 200) (hpa : pa ≤ en) (hlt : pa < en) (c_1 : ¬ nI en ≤ nI (pa + 1)) (n_5 : (pa + 1) < en) : tu ≤ 220 := by
  first | assumption | omega | decide
theorem lf_X3_advance_6_9 (a : Nat → Nat) (t : Nat → Nat) (en : Nat) (pa : Nat) (sg : Int32) (fa : Int32) (tu : Nat) (tb : Nat → Int32) (htu : tu ≤ 220) (hen : en ≤ 200) (hpa : pa ≤ en) (hlt : pa < en) (c_1 : ¬ nI en ≤ nI (pa + 1)) (n_5 : (pa + 1) < en) (r_8 : Int32) (wr_8 : (r_8 = -1 ∨ ∃ k : Nat, k < 256 ∧ r_8 = nI k)) : (((pa + 1) : Nat) = pa + 1) ∧ (((pa + 1) : Nat) ≤ en) ∧ (SG (r_8 : Int32) ((pa + 1) : Nat) en) := by
  first
    | exact ⟨rfl, by omega, Or.inl rfl⟩
    | exact ⟨rfl, by omega, sg_mk (by assumption) (by omega)⟩
set_option maxHeartbeats 4000000 in
set_option maxRecDepth 100000 in
theorem c_X3_advance_6 (l : Launch) (D : va_G) (cI cB cZ cJ : ClassId) (tx : List (ClassId × FieldType)) (a : Nat → Nat) (t : Nat → Nat) (en : Nat) (pa : Nat) (sg : Int32) (fa : Int32) (tu : Nat) (tb : Nat → Int32) (htu : tu ≤ 220) (hen : en ≤ 200) (hpa : pa ≤ en) (hlt : pa < en) : WrV l D cI cB cZ cJ tx yX3_advance cX3_advance 1 none 1 0 0 [.ref (a 2)] [(a 2, .inr (3, [.ref (a 1), .ref (t 0), .int (nI en), .int (nI pa), .int sg, .int 6, .int fa])), (a 1, .inr (8, [.ref (a 17), .int (nI tu)])), (a 17, .inl (cB, 220, .inl tb))] (fun (v : (Nat) × (Int32)) => (v.1 = pa + 1) ∧ (v.1 ≤ en) ∧ (SG v.2 v.1 en)) (fun v => [(a 2, .inr (3, [.ref (a 1), .ref (t 0), .int (nI en), .int (nI (v.1)), .int v.2, .int 6, .int fa])), (a 1, .inr (8, [.ref (a 17), .int (nI tu)])), (a 17, .inl (cB, 220, .inl tb))]) := by
  refine wrv_of2 (by decide) (Nat.le_of_ble_eq_true rfl) ?_
  intro p e s m below meth c A ls H locs hC hK hP hD hA hS hl
  obtain ⟨hx, hb, hr, hml, hown, hts, hlocks, hin⟩ := hC
  have hown : s.vm.findClass RX3 = some m.cls := hown
  have hl : lv_has ls 1 [(0, .ref (a 2))] := hl
  refine lv_aload_n hx hb dX3_advance_0 rfl (lv_at hl 0 rfl) ?_
  refine lv_dup hx hb dX3_advance_1 rfl ?_
  refine va_get (D := D) (ci := 3) (v := .int (nI pa)) (C := RX3) (T := TX3) (N := 7) hx hb hts inT_X3 hown hK.1 hP 0 rfl rfl 3 (by decide) (hts _ k_168) (fun _ h9 => h9) rfl dX3_advance_2 ?_
  refine lv_iconst (v := 1) hx hb dX3_advance_5 (by decide) ?_
  refine lv_iadd hx hb dX3_advance_6 ?_
  refine lv_topv (y := nI (pa + 1)) (nI_add pa 1) ?_
  refine va_put (D := D) (ci := 3) (v := .int (nI (pa + 1))) (ty := .int) (C := RX3) (T := TX3) (N := 7) hx hb hts inT_X3 tyX3 tyX3_ok nmX3 hown hK.1 hP hD hS 0 rfl rfl 3 (by decide) (hts _ k_168) (fun _ h9 => h9) rfl (by decide +kernel) rfl rfl (Nat.le_of_ble_eq_true rfl) dX3_advance_7 (fun H locs hP hD hS => ?_)
  have hP : va_P D vwCl [(a 2, .inr (3, [.ref (a 1), .ref (t 0), .int (nI en), .int (nI (pa + 1)), .int sg, .int 6, .int fa])), (a 1, .inr (8, [.ref (a 17), .int (nI tu)])), (a 17, .inl (cB, 220, .inl tb))] H := hP
  have hD : va_D A [(a 2, .inr (3, [.ref (a 1), .ref (t 0), .int (nI en), .int (nI (pa + 1)), .int sg, .int 6, .int fa])), (a 1, .inr (8, [.ref (a 17), .int (nI tu)])), (a 17, .inl (cB, 220, .inl tb))] := hD
  refine lv_aload_n hx hb dX3_advance_10 rfl (lv_at hl 0 rfl) ?_
  refine lv_aload_n hx hb dX3_advance_11 rfl (lv_at hl 0 rfl) ?_
  refine va_get (D := D) (ci := 3) (v := .int (nI (pa + 1))) (C := RX3) (T := TX3) (N := 7) hx hb hts inT_X3 hown hK.1 hP 0 rfl rfl 3 (by decide) (hts _ k_168) (fun _ h9 => h9) rfl dX3_advance_12 ?_
  refine lv_aload_n hx hb dX3_advance_15 rfl (lv_at hl 0 rfl) ?_
  refine va_get (D := D) (ci := 3) (v := .int (nI en)) (C := RX3) (T := TX3) (N := 7) hx hb hts inT_X3 hown hK.1 hP 0 rfl rfl 2 (by decide) (hts _ k_167) (fun _ h9 => h9) rfl dX3_advance_16 ?_
  refine lv_icmp_ge (tgt := 36) hx hb dX3_advance_19 (by decide) (fun c_1 => ?_) (fun c_1 => ?_)
  · have n_2 : en ≤ (pa + 1) := (lf_X3_advance_6_3 a t en pa sg fa tu tb htu hen hpa hlt c_1)
    refine lv_iconst (v := (-1)) hx hb dX3_advance_36 (by decide) ?_
    refine va_put (D := D) (ci := 3) (v := .int (-1)) (ty := .int) (C := RX3) (T := TX3) (N := 7) hx hb hts inT_X3 tyX3 tyX3_ok nmX3 hown hK.1 hP hD hS 0 rfl rfl 4 (by decide) (hts _ k_169) (fun _ h9 => h9) rfl (by decide +kernel) rfl rfl (Nat.le_of_ble_eq_true rfl) dX3_advance_37 (fun H locs hP hD hS => ?_)
    have hP : va_P D vwCl [(a 2, .inr (3, [.ref (a 1), .ref (t 0), .int (nI en), .int (nI (pa + 1)), .int (-1), .int 6, .int fa])), (a 1, .inr (8, [.ref (a 17), .int (nI tu)])), (a 17, .inl (cB, 220, .inl tb))] H := hP
    have hD : va_D A [(a 2, .inr (3, [.ref (a 1), .ref (t 0), .int (nI en), .int (nI (pa + 1)), .int (-1), .int 6, .int fa])), (a 1, .inr (8, [.ref (a 17), .int (nI tu)])), (a 17, .inl (cB, 220, .inl tb))] := hD
    exact W.vret hx hb hr (fun tt9 ht hW => ⟨⟨(((pa + 1) : Nat), ((-1) : Int32)), rfl, (lf_X3_advance_6_4 a t en pa sg fa tu tb htu hen hpa hlt c_1 n_2), ⟨by rw [ht]; exact hP, hD⟩⟩, hS.F ht⟩) hS.2.2 dX3_advance_40 hlocks
  · have n_5 : (pa + 1) < en := (lf_X3_advance_6_6 a t en pa sg fa tu tb htu hen hpa hlt c_1)
    refine lv_aload_n hx hb dX3_advance_22 rfl (lv_at hl 0 rfl) ?_
    refine va_get (D := D) (ci := 3) (v := .ref (a 1)) (C := RX3) (T := TX3) (N := 7) hx hb hts inT_X3 hown hK.1 hP 0 rfl rfl 0 (by decide) (hts _ k_165) (fun _ h9 => h9) rfl dX3_advance_23 ?_
    refine lv_aload_n hx hb dX3_advance_26 rfl (lv_at hl 0 rfl) ?_
    refine va_get (D := D) (ci := 3) (v := .int (nI (pa + 1))) (C := RX3) (T := TX3) (N := 7) hx hb hts inT_X3 hown hK.1 hP 0 rfl rfl 3 (by decide) (hts _ k_168) (fun _ h9 => h9) rfl dX3_advance_27 ?_
    refine eRi (va_runV (As := [.int (nI (pa + 1))]) (rest := [.ref (a 2)]) ⟨hx, hb, hml, hown, hts⟩ (c_X8_byteAt_b l D cI cB cZ cJ tx a tu tb (nI (pa + 1)) (lf_X3_advance_6_7 a t en pa sg fa tu tb htu hen hpa hlt c_1 n_5) H.size) (zV hts k_564 v_X8_byteAt ⟨Nat.le_of_ble_eq_true rfl, Nat.le_of_ble_eq_true rfl⟩) (pV (pxS hK hP hD [1, 2] (by decide) rfl) hK hP 1 rfl rfl) rfl rfl hl.1 rfl (lv_room (Nat.le_of_ble_eq_true rfl)) dX3_advance_30 ⟨Nat.le_of_ble_eq_true rfl, Nat.le_of_ble_eq_true rfl⟩) hP hS hA (fun r_8 H locs wr_8 hP hS => ?_)
    refine lv_goto (tgt := 37) hx hb dX3_advance_33 (by decide) ?_
    refine va_put (D := D) (ci := 3) (v := .int r_8) (ty := .int) (C := RX3) (T := TX3) (N := 7) hx hb hts inT_X3 tyX3 tyX3_ok nmX3 hown hK.1 hP hD hS 0 rfl rfl 4 (by decide) (hts _ k_169) (fun _ h9 => h9) rfl (by decide +kernel) rfl rfl (Nat.le_of_ble_eq_true rfl) dX3_advance_37 (fun H locs hP hD hS => ?_)
    have hP : va_P D vwCl [(a 2, .inr (3, [.ref (a 1), .ref (t 0), .int (nI en), .int (nI (pa + 1)), .int r_8, .int 6, .int fa])), (a 1, .inr (8, [.ref (a 17), .int (nI tu)])), (a 17, .inl (cB, 220, .inl tb))] H := hP
    have hD : va_D A [(a 2, .inr (3, [.ref (a 1), .ref (t 0), .int (nI en), .int (nI (pa + 1)), .int r_8, .int 6, .int fa])), (a 1, .inr (8, [.ref (a 17), .int (nI tu)])), (a 17, .inl (cB, 220, .inl tb))] := hD
    exact W.vret hx hb hr (fun tt9 ht hW => ⟨⟨(((pa + 1) : Nat), (r_8 : Int32)), rfl, (lf_X3_advance_6_9 a t en pa sg fa tu tb htu hen hpa hlt c_1 n_5 r_8 wr_8), ⟨by rw [ht]; exact hP, hD⟩⟩, hS.F ht⟩) hS.2.2 dX3_advance_40 hlocks

set_option maxHeartbeats 4000000 in
set_option maxRecDepth 100000 in
theorem c_X3_refuse_6 (l : Launch) (D : va_G) (cI cB cZ cJ : ClassId) (tx : List (ClassId × FieldType)) (a : Nat → Nat) (t : Nat → Nat) (en : Nat) (pa : Nat) (sg : Int32) (fa : Int32) (n1 : Int32) : WrV l D cI cB cZ cJ tx yX3_refuse cX3_refuse 2 none 0 0 0 [.ref (a 2), .int n1] [(a 2, .inr (3, [.ref (a 1), .ref (t 0), .int (nI en), .int (nI pa), .int sg, .int 6, .int fa]))] (fun (v : (Int32)) => True) (fun v => [(a 2, .inr (3, [.ref (a 1), .ref (t 0), .int (nI en), .int (nI pa), .int sg, .int 6, .int v]))]) := by
  refine wrv_of2 (by decide) (Nat.le_of_ble_eq_true rfl) ?_
  intro p e s m below meth c A ls H locs hC hK hP hD hA hS hl
  obtain ⟨hx, hb, hr, hml, hown, hts, hlocks, hin⟩ := hC
  have hown : s.vm.findClass RX3 = some m.cls := hown
  have hl : lv_has ls 2 [(0, .ref (a 2)), (1, .int n1)] := hl
  refine lv_aload_n hx hb dX3_refuse_0 rfl (lv_at hl 0 rfl) ?_
  refine va_get (D := D) (ci := 3) (v := .int fa) (C := RX3) (T := TX3) (N := 7) hx hb hts inT_X3 hown hK.1 hP 0 rfl rfl 6 (by decide) (hts _ k_171) (fun _ h9 => h9) rfl dX3_refuse_1 ?_
  refine lv_if_ne (tgt := 12) hx hb dX3_refuse_4 (by decide) (fun c_1 => ?_) (fun c_1 => ?_)
  · exact W.vret hx hb hr (fun tt9 ht hW => ⟨⟨((fa : Int32)), rfl, trivial, ⟨by rw [ht]; exact hP, hD⟩⟩, hS.F ht⟩) hS.2.2 dX3_refuse_12 hlocks
  · refine lv_aload_n hx hb dX3_refuse_7 rfl (lv_at hl 0 rfl) ?_
    refine lv_iload_n hx hb dX3_refuse_8 rfl (lv_at hl 1 rfl) ?_
    refine va_put (D := D) (ci := 3) (v := .int n1) (ty := .int) (C := RX3) (T := TX3) (N := 7) hx hb hts inT_X3 tyX3 tyX3_ok nmX3 hown hK.1 hP hD hS 0 rfl rfl 6 (by decide) (hts _ k_171) (fun _ h9 => h9) rfl (by decide +kernel) rfl rfl (Nat.le_of_ble_eq_true rfl) dX3_refuse_9 (fun H locs hP hD hS => ?_)
    have hP : va_P D vwCl [(a 2, .inr (3, [.ref (a 1), .ref (t 0), .int (nI en), .int (nI pa), .int sg, .int 6, .int n1]))] H := hP
    have hD : va_D A [(a 2, .inr (3, [.ref (a 1), .ref (t 0), .int (nI en), .int (nI pa), .int sg, .int 6, .int n1]))] := hD
    exact W.vret hx hb hr (fun tt9 ht hW => ⟨⟨((n1 : Int32)), rfl, trivial, ⟨by rw [ht]; exact hP, hD⟩⟩, hS.F ht⟩) hS.2.2 dX3_refuse_12 hlocks

theorem lf_X3_isOneOf_6_2 (a : Nat → Nat) (t : Nat → Nat) (en : Nat) (pa : Nat) (sg : Int32) (fa : Int32) (i0 : Nat) (hi0 : i0 < 16) (hsg : SG sg pa en) (c_1 : ¬ fa = 0) : ((0 : Int32) = 0) ∨ ((0 : Int32) = 1 ∧ ∃ k : Nat, k < 256 ∧ sg = nI k ∧ pa < en ∧ sHas i0 k = true) := by
  first
    | exact Or.inl rfl
    | exact Or.inr ⟨rfl, kq, hkq, by assumption, lkq, has_use (by assumption) (by assumption)⟩
theorem lf_X3_isOneOf_6_4 (a : Nat → Nat) (t : Nat → Nat) (en : Nat) (pa : Nat) (sg : Int32) (fa : Int32) (i0 : Nat) (hi0 : i0 < 16) (hsg : SG sg pa en) (c_1 : fa = 0) (c_3 : sg < 0) : ((0 : Int32) = 0) ∨ ((0 : Int32) = 1 ∧ ∃ k : Nat, k < 256 ∧ sg = nI k ∧ pa < en ∧ sHas i0 k = true) := by
  first
    | exact Or.inl rfl
    | exact Or.inr ⟨rfl, kq, hkq, by assumption, lkq, has_use (by assumption) (by assumption)⟩
theorem lf_X3_isOneOf_6_5 (a : Nat → Nat) (t : Nat → Nat) (en : Nat) (pa : Nat) (sg : Int32) (fa : Int32) (i0 : Nat) (hi0 : i0 < 16) (hsg : SG sg pa en) (c_1 : fa = 0) (c_3 : ¬ sg < 0) (kq : Nat) (hkq : kq < 256) (ekq : sg = nI kq) (lkq : pa < en) : kq < 65536 := by
  omega
theorem lf_X3_isOneOf_6_6 (a : Nat → Nat) (t : Nat → Nat) (en : Nat) (pa : Nat) (sg : Int32) (fa : Int32) (i0 : Nat) (hi0 : i0 < 16) (hsg : SG sg pa en) (c_1 : fa = 0) (c_3 : ¬ sg < 0) (kq : Nat) (hkq : kq < 256) (ekq : sg = nI kq) (lkq : pa < en) : i0 < 16 := by
  first | assumption | omega | decide | exact sg_nI (by assumption) (by assumption)
theorem lf_X3_isOneOf_6_7 (a : Nat → Nat) (t : Nat → Nat) (en : Nat) (pa : Nat) (sg : Int32) (fa : Int32) (i0 : Nat) (hi0 : i0 < 16) (hsg : SG sg pa en) (c_1 : fa = 0) (c_3 : ¬ sg < 0) (kq : Nat) (hkq : kq < 256) (ekq : sg = nI kq) (lkq : pa < en) : kq < 256 := by
  first | assumption | omega | decide | exact sg_nI (by assumption) (by assumption)
theorem lf_X3_isOneOf_6_8 (a : Nat → Nat) (t : Nat → Nat) (en : Nat) (pa : Nat) (sg : Int32) (fa : Int32) (i0 : Nat) (hi0 : i0 < 16) (hsg : SG sg pa en) (c_1 : fa = 0) (c_3 : ¬ sg < 0) (kq : Nat) (hkq : kq < 256) (ekq : sg = nI kq) (lkq : pa < en) : i0 < 16 := by
  first | omega | assumption
theorem lf_X3_isOneOf_6_11 (a : Nat → Nat) (t : Nat → Nat) (en : Nat) (pa : Nat) (sg : Int32) (fa : Int32) (i0 : Nat) (hi0 : i0 < 16) (hsg : SG sg pa en) (c_1 : fa = 0) (c_3 : ¬ sg < 0) (kq : Nat) (hkq : kq < 256) (ekq : sg = nI kq) (lkq : pa < en) (r_9 : Int32) (wr_9 : 0 ≤ r_9 → sHas i0 kq = true) (c_10 : r_9 < 0) : ((0 : Int32) = 0) ∨ ((0 : Int32) = 1 ∧ ∃ k : Nat, k < 256 ∧ sg = nI k ∧ pa < en ∧ sHas i0 k = true) := by
  first
    | exact Or.inl rfl
    | exact Or.inr ⟨rfl, kq, hkq, by assumption, lkq, has_use (by assumption) (by assumption)⟩
theorem lf_X3_isOneOf_6_12 (a : Nat → Nat) (t : Nat → Nat) (en : Nat) (pa : Nat) (sg : Int32) (fa : Int32) (i0 : Nat) (hi0 : i0 < 16) (hsg : SG sg pa en) (c_1 : fa = 0) (c_3 : ¬ sg < 0) (kq : Nat) (hkq : kq < 256) (ekq : sg = nI kq) (lkq : pa < en) (r_9 : Int32) (wr_9 : 0 ≤ r_9 → sHas i0 kq = true) (c_10 : ¬ r_9 < 0) : ((1 : Int32) = 0) ∨ ((1 : Int32) = 1 ∧ ∃ k : Nat, k < 256 ∧ sg = nI k ∧ pa < en ∧ sHas i0 k = true) := by
  first
    | exact Or.inl rfl
    | exact Or.inr ⟨rfl, kq, hkq, by assumption, lkq, has_use (by assumption) (by assumption)⟩
set_option maxHeartbeats 4000000 in
set_option maxRecDepth 100000 in
theorem c_X3_isOneOf_6 (l : Launch) (D : va_G) (cI cB cZ cJ : ClassId) (tx : List (ClassId × FieldType)) (adK adV : Nat → Nat) (a : Nat → Nat) (t : Nat → Nat) (en : Nat) (pa : Nat) (sg : Int32) (fa : Int32) (i0 : Nat) (hi0 : i0 < 16) (hsg : SG sg pa en) : RzI l D cI cB cZ cJ tx adK adV yX3_isOneOf cX3_isOneOf 2 (some .boolean) 4 [.ref (a 2), .ref (adK i0)] [(a 2, .inr (3, [.ref (a 1), .ref (t 0), .int (nI en), .int (nI pa), .int sg, .int 6, .int fa]))] (fun r => (r = 0) ∨ (r = 1 ∧ ∃ k : Nat, k < 256 ∧ sg = nI k ∧ pa < en ∧ sHas i0 k = true)) := by
  refine rzi_of2 (by decide +kernel) (Nat.le_of_ble_eq_true rfl) ?_
  intro p e s m below meth c A ls H locs hC hK hZ hP hD hA hS hl
  obtain ⟨hx, hb, hr, hml, hown, hts, hlocks, hin⟩ := hC
  have hown : s.vm.findClass RX3 = some m.cls := hown
  have hl : lv_has ls 2 [(0, .ref (a 2)), (1, .ref (adK i0))] := hl
  refine lv_aload_n hx hb dX3_isOneOf_0 rfl (lv_at hl 0 rfl) ?_
  refine va_get (D := D) (ci := 3) (v := .int fa) (C := RX3) (T := TX3) (N := 7) hx hb hts inT_X3 hown hK.1 hP 0 rfl rfl 6 (by decide) (hts _ k_171) (fun _ h9 => h9) rfl dX3_isOneOf_1 ?_
  refine lv_if_ne (tgt := 30) hx hb dX3_isOneOf_4 (by decide) (fun c_1 => ?_) (fun c_1 => ?_)
  · refine lv_iconst (v := 0) hx hb dX3_isOneOf_30 (by decide) ?_
    exact W.zret (v := 0) hx hb hr (by decide) (fun tt9 ht hW => ⟨⟨(0 : Int32), (), rfl, (lf_X3_isOneOf_6_2 a t en pa sg fa i0 hi0 hsg c_1), trivial⟩, hS.F ht⟩) hS.2.2 dX3_isOneOf_31 hlocks
  · refine lv_aload_n hx hb dX3_isOneOf_7 rfl (lv_at hl 0 rfl) ?_
    refine va_get (D := D) (ci := 3) (v := .int sg) (C := RX3) (T := TX3) (N := 7) hx hb hts inT_X3 hown hK.1 hP 0 rfl rfl 4 (by decide) (hts _ k_169) (fun _ h9 => h9) rfl dX3_isOneOf_8 ?_
    refine lv_if_lt (tgt := 30) hx hb dX3_isOneOf_11 (by decide) (fun c_3 => ?_) (fun c_3 => ?_)
    · refine lv_iconst (v := 0) hx hb dX3_isOneOf_30 (by decide) ?_
      exact W.zret (v := 0) hx hb hr (by decide) (fun tt9 ht hW => ⟨⟨(0 : Int32), (), rfl, (lf_X3_isOneOf_6_4 a t en pa sg fa i0 hi0 hsg c_1 c_3), trivial⟩, hS.F ht⟩) hS.2.2 dX3_isOneOf_31 hlocks
    · obtain ⟨kq, hkq, ekq, lkq⟩ := sg_of hsg c_3
      subst ekq
      refine lv_aload_n hx hb dX3_isOneOf_14 rfl (lv_at hl 1 rfl) ?_
      refine lv_aload_n hx hb dX3_isOneOf_15 rfl (lv_at hl 0 rfl) ?_
      refine va_get (D := D) (ci := 3) (v := .int (nI kq)) (C := RX3) (T := TX3) (N := 7) hx hb hts inT_X3 hown hK.1 hP 0 rfl rfl 4 (by decide) (hts _ k_169) (fun _ h9 => h9) rfl dX3_isOneOf_16 ?_
      refine lv_i2c hx hb dX3_isOneOf_19 (i2c_nI (lf_X3_isOneOf_6_5 a t en pa (nI kq) fa i0 hi0 hsg c_1 c_3 kq hkq rfl lkq)) ?_
      refine eRi (va_runV (As := [.int (nI kq)]) (rest := []) ⟨hx, hb, hml, hown, hts⟩ (c_J0_indexOf1 l D cI cB cZ cJ tx adK adV i0 kq (lf_X3_isOneOf_6_6 a t en pa (nI kq) fa i0 hi0 hsg c_1 c_3 kq hkq rfl lkq) (lf_X3_isOneOf_6_7 a t en pa (nI kq) fa i0 hi0 hsg c_1 c_3 kq hkq rfl lkq) H.size) (zV hts k_576 v_J0_indexOf_0f7a4 ⟨Nat.le_of_ble_eq_true rfl, Nat.le_of_ble_eq_true rfl⟩) (pVS (pz (px0 hK) hZ hS (aR hS hA)) hZ (lf_X3_isOneOf_6_8 a t en pa (nI kq) fa i0 hi0 hsg c_1 c_3 kq hkq rfl lkq) hS) rfl rfl hl.1 rfl (lv_room (Nat.le_of_ble_eq_true rfl)) dX3_isOneOf_20 ⟨Nat.le_of_ble_eq_true rfl, Nat.le_of_ble_eq_true rfl⟩) hP hS hA (fun r_9 H locs wr_9 hP hS => ?_)
      refine lv_if_lt (tgt := 30) hx hb dX3_isOneOf_23 (by decide) (fun c_10 => ?_) (fun c_10 => ?_)
      · refine lv_iconst (v := 0) hx hb dX3_isOneOf_30 (by decide) ?_
        exact W.zret (v := 0) hx hb hr (by decide) (fun tt9 ht hW => ⟨⟨(0 : Int32), (), rfl, (lf_X3_isOneOf_6_11 a t en pa (nI kq) fa i0 hi0 hsg c_1 c_3 kq hkq rfl lkq r_9 wr_9 c_10), trivial⟩, hS.F ht⟩) hS.2.2 dX3_isOneOf_31 hlocks
      · refine lv_iconst (v := 1) hx hb dX3_isOneOf_26 (by decide) ?_
        refine lv_goto (tgt := 31) hx hb dX3_isOneOf_27 (by decide) ?_
        exact W.zret (v := 1) hx hb hr (by decide) (fun tt9 ht hW => ⟨⟨(1 : Int32), (), rfl, (lf_X3_isOneOf_6_12 a t en pa (nI kq) fa i0 hi0 hsg c_1 c_3 kq hkq rfl lkq r_9 wr_9 c_10), trivial⟩, hS.F ht⟩) hS.2.2 dX3_isOneOf_31 hlocks

theorem lf_X3_take_6_1 (a : Nat → Nat) (t : Nat → Nat) (en : Nat) (pa : Nat) (sg : Int32) (fa : Int32) (tu : Nat) (tb : Nat → Int32) (i0 : Nat) (hi0 : i0 < 16) (htu : tu ≤ 220) (hen : en ≤ 200) (hpa : pa ≤ en) (hsg : SG sg pa en) : i0 < 16 := by
  first | assumption | omega | decide | exact sg_nI (by assumption) (by assumption)
theorem lf_X3_take_6_2 (a : Nat → Nat) (t : Nat → Nat) (en : Nat) (pa : Nat) (sg : Int32) (fa : Int32) (tu : Nat) (tb : Nat → Int32) (i0 : Nat) (hi0 : i0 < 16) (htu : tu ≤ 220) (hen : en ≤ 200) (hpa : pa ≤ en) (hsg : SG sg pa en) : SG sg pa en := by
  first | assumption | omega | decide | exact sg_nI (by assumption) (by assumption)
theorem lf_X3_take_6_6 (a : Nat → Nat) (t : Nat → Nat) (en : Nat) (pa : Nat) (sg : Int32) (fa : Int32) (tu : Nat) (tb : Nat → Int32) (i0 : Nat) (hi0 : i0 < 16) (htu : tu ≤ 220) (hen : en ≤ 200) (hpa : pa ≤ en) (hsg : SG sg pa en) (fa_5 : Int32) : (pa ≤ (pa : Nat)) ∧ ((pa : Nat) ≤ en) ∧ (SG (sg : Int32) (pa : Nat) en) := by
  first | (refine ⟨?_, ?_, ?_⟩ <;> first | omega | assumption) | (refine ⟨?_, ?_, ?_, ?_⟩ <;> first | omega | assumption)
theorem lf_X3_take_6_7 (a : Nat → Nat) (t : Nat → Nat) (en : Nat) (pa : Nat) (sg : Int32) (fa : Int32) (tu : Nat) (tb : Nat → Int32) (i0 : Nat) (hi0 : i0 < 16) (htu : tu ≤ 220) (hen : en ≤ 200) (hpa : pa ≤ en) (hsg : SG sg pa en) (kk3 : Nat) (hkk3 : kk3 < 256) (lkk3 : pa < en) (skk3 : sHas i0 kk3 = true) : tu ≤ 220 := by
  first | assumption | omega | decide | exact sg_nI (by assumption) (by assumption)
theorem lf_X3_take_6_8 (a : Nat → Nat) (t : Nat → Nat) (en : Nat) (pa : Nat) (sg : Int32) (fa : Int32) (tu : Nat) (tb : Nat → Int32) (i0 : Nat) (hi0 : i0 < 16) (htu : tu ≤ 220) (hen : en ≤ 200) (hpa : pa ≤ en) (hsg : SG sg pa en) (kk3 : Nat) (hkk3 : kk3 < 256) (lkk3 : pa < en) (skk3 : sHas i0 kk3 = true) : en ≤ 200 := by
  first | assumption | omega | decide | exact sg_nI (by assumption) (by assumption)
theorem lf_X3_take_6_9 (a : Nat → Nat) (t : Nat → Nat) (en : Nat) (pa : Nat) (sg : Int32) (fa : Int32) (tu : Nat) (tb : Nat → Int32) (i0 : Nat) (hi0 : i0 < 16) (htu : tu ≤ 220) (hen : en ≤ 200) (hpa : pa ≤ en) (hsg : SG sg pa en) (kk3 : Nat) (hkk3 : kk3 < 256) (lkk3 : pa < en) (skk3 : sHas i0 kk3 = true) : pa ≤ en := by
  first | assumption | omega | decide | exact sg_nI (by assumption) (by assumption)
theorem lf_X3_take_6_10 (a : Nat → Nat) (t : Nat → Nat) (en : Nat) (pa : Nat) (sg : Int32) (fa : Int32) (tu : Nat) (tb : Nat → Int32) (i0 : Nat) (hi0 : i0 < 16) (htu : tu ≤ 220) (hen : en ≤ 200) (hpa : pa ≤ en) (hsg : SG sg pa en) (kk3 : Nat) (hkk3 : kk3 < 256) (lkk3 : pa < en) (skk3 : sHas i0 kk3 = true) : pa < en := by
  first | assumption | omega | decide | exact sg_nI (by assumption) (by assumption)
theorem lf_X3_take_6_13 (a : Nat → Nat) (t : Nat → Nat) (en : Nat) (pa : Nat) (sg : Int32) (fa : Int32) (tu : Nat) (tb : Nat → Int32) (i0 : Nat) (hi0 : i0 < 16) (htu : tu ≤ 220) (hen : en ≤ 200) (hpa : pa ≤ en) (hsg : SG sg pa en) (kk3 : Nat) (hkk3 : kk3 < 256) (lkk3 : pa < en) (skk3 : sHas i0 kk3 = true) (pa_12 : Nat) (sg_12 : Int32) (hz_12_0 : pa_12 = pa + 1) (hz_12_1 : pa_12 ≤ en) (hz_12_2 : SG sg_12 pa_12 en) : (pa ≤ (pa_12 : Nat)) ∧ ((pa_12 : Nat) ≤ en) ∧ (SG (sg_12 : Int32) (pa_12 : Nat) en) := by
  first | (refine ⟨?_, ?_, ?_⟩ <;> first | omega | assumption) | (refine ⟨?_, ?_, ?_, ?_⟩ <;> first | omega | assumption)
set_option maxHeartbeats 4000000 in
set_option maxRecDepth 100000 in
theorem c_X3_take_6 (l : Launch) (D : va_G) (cI cB cZ cJ : ClassId) (tx : List (ClassId × FieldType)) (adK adV : Nat → Nat) (a : Nat → Nat) (t : Nat → Nat) (en : Nat) (pa : Nat) (sg : Int32) (fa : Int32) (tu : Nat) (tb : Nat → Int32) (i0 : Nat) (hi0 : i0 < 16) (htu : tu ≤ 220) (hen : en ≤ 200) (hpa : pa ≤ en) (hsg : SG sg pa en) : WzV l D cI cB cZ cJ tx adK adV yX3_take cX3_take 2 none 5 0 0 [.ref (a 2), .ref (adK i0)] [(a 2, .inr (3, [.ref (a 1), .ref (t 0), .int (nI en), .int (nI pa), .int sg, .int 6, .int fa])), (a 1, .inr (8, [.ref (a 17), .int (nI tu)])), (a 17, .inl (cB, 220, .inl tb))] (fun (v : (Nat) × (Int32) × (Int32)) => (pa ≤ v.1) ∧ (v.1 ≤ en) ∧ (SG v.2.1 v.1 en)) (fun v => [(a 2, .inr (3, [.ref (a 1), .ref (t 0), .int (nI en), .int (nI (v.1)), .int v.2.1, .int 6, .int v.2.2])), (a 1, .inr (8, [.ref (a 17), .int (nI tu)])), (a 17, .inl (cB, 220, .inl tb))]) := by
  refine wzv_of2 (by decide +kernel) (Nat.le_of_ble_eq_true rfl) ?_
  intro p e s m below meth c A ls H locs hC hK hZ hP hD hA hS hl
  obtain ⟨hx, hb, hr, hml, hown, hts, hlocks, hin⟩ := hC
  have hown : s.vm.findClass RX3 = some m.cls := hown
  have hl : lv_has ls 2 [(0, .ref (a 2)), (1, .ref (adK i0))] := hl
  refine lv_aload_n hx hb dX3_take_0 rfl (lv_at hl 0 rfl) ?_
  refine lv_aload_n hx hb dX3_take_1 rfl (lv_at hl 1 rfl) ?_
  refine eRi (va_runV (As := [.ref (adK i0)]) (rest := []) ⟨hx, hb, hml, hown, hts⟩ (c_X3_isOneOf_6 l D cI cB cZ cJ tx adK adV a t en pa sg fa i0 (lf_X3_take_6_1 a t en pa sg fa tu tb i0 hi0 htu hen hpa hsg) (lf_X3_take_6_2 a t en pa sg fa tu tb i0 hi0 htu hen hpa hsg) H.size) (zV hts k_572 v_X3_isOneOf ⟨Nat.le_of_ble_eq_true rfl, Nat.le_of_ble_eq_true rfl⟩) (pV (pz (px1 hK hP 0 rfl) hZ hS (aR hS hA)) hK hP 0 rfl rfl) rfl rfl hl.1 rfl (lv_room (Nat.le_of_ble_eq_true rfl)) dX3_take_2 ⟨Nat.le_of_ble_eq_true rfl, Nat.le_of_ble_eq_true rfl⟩) hP hS hA (fun r_3 H locs wr_3 hP hS => ?_)
  rcases wr_3 with rfl | ⟨rfl, kk3, hkk3, rfl, lkk3, skk3⟩
  · refine lv_if_eq (tgt := 15) hx hb dX3_take_5 (by decide) (fun _ => ?_) (fun c => absurd c (by decide))
    refine lv_aload_n hx hb dX3_take_15 rfl (lv_at hl 0 rfl) ?_
    refine lv_iconst (v := 1) hx hb dX3_take_16 (by decide) ?_
    refine eWv (wr := [(a 1, .inr (8, [.ref (a 17), .int (nI tu)])), (a 17, .inl (cB, 220, .inl tb))]) (va_runV (As := [.int 1]) (rest := []) ⟨hx, hb, hml, hown, hts⟩ (c_X3_refuse_6 l D cI cB cZ cJ tx a t en pa sg fa 1 H.size) (zV hts k_662 v_X3_refuse ⟨Nat.le_of_ble_eq_true rfl, Nat.le_of_ble_eq_true rfl⟩) (pV (pxS hK hP hD [0] (by decide) rfl) hK hP 0 rfl rfl) rfl rfl hl.1 rfl (lv_room (Nat.le_of_ble_eq_true rfl)) dX3_take_17 ⟨Nat.le_of_ble_eq_true rfl, Nat.le_of_ble_eq_true rfl⟩) hP hD hS hA [0] [1, 2] rfl rfl (by decide) (by decide) (fun u_5 H locs wr_4 hP hD hS => ?_)
    obtain ⟨fa_5, rfl⟩ : ∃ z, z = u_5 := ⟨_, rfl⟩
    have hP : va_P D vwCl [(a 1, .inr (8, [.ref (a 17), .int (nI tu)])), (a 17, .inl (cB, 220, .inl tb)), (a 2, .inr (3, [.ref (a 1), .ref (t 0), .int (nI en), .int (nI pa), .int sg, .int 6, .int fa_5]))] H := hP
    have hD : va_D A [(a 1, .inr (8, [.ref (a 17), .int (nI tu)])), (a 17, .inl (cB, 220, .inl tb)), (a 2, .inr (3, [.ref (a 1), .ref (t 0), .int (nI en), .int (nI pa), .int sg, .int 6, .int fa_5]))] := hD
    have hP := hP.sub (ws' := [(a 2, .inr (3, [.ref (a 1), .ref (t 0), .int (nI en), .int (nI pa), .int sg, .int 6, .int fa_5])), (a 1, .inr (8, [.ref (a 17), .int (nI tu)])), (a 17, .inl (cB, 220, .inl tb))]) [2, 0, 1] rfl
    have hD := hD.sub (ws' := [(a 2, .inr (3, [.ref (a 1), .ref (t 0), .int (nI en), .int (nI pa), .int sg, .int 6, .int fa_5])), (a 1, .inr (8, [.ref (a 17), .int (nI tu)])), (a 17, .inl (cB, 220, .inl tb))]) [2, 0, 1] (by decide) rfl
    exact W.vret hx hb hr (fun tt9 ht hW => ⟨⟨((pa : Nat), (sg : Int32), (fa_5 : Int32)), rfl, (lf_X3_take_6_6 a t en pa sg fa tu tb i0 hi0 htu hen hpa hsg fa_5), ⟨by rw [ht]; exact hP, hD⟩⟩, hS.F ht⟩) hS.2.2 dX3_take_20 hlocks
  · refine lv_if_eq (tgt := 15) hx hb dX3_take_5 (by decide) (fun c => absurd c (by decide)) (fun _ => ?_)
    refine lv_aload_n hx hb dX3_take_8 rfl (lv_at hl 0 rfl) ?_
    refine eWv (wr := []) (va_runV (As := []) (rest := []) ⟨hx, hb, hml, hown, hts⟩ (c_X3_advance_6 l D cI cB cZ cJ tx a t en pa (nI kk3) fa tu tb (lf_X3_take_6_7 a t en pa (nI kk3) fa tu tb i0 hi0 htu hen hpa hsg kk3 hkk3 lkk3 skk3) (lf_X3_take_6_8 a t en pa (nI kk3) fa tu tb i0 hi0 htu hen hpa hsg kk3 hkk3 lkk3 skk3) (lf_X3_take_6_9 a t en pa (nI kk3) fa tu tb i0 hi0 htu hen hpa hsg kk3 hkk3 lkk3 skk3) (lf_X3_take_6_10 a t en pa (nI kk3) fa tu tb i0 hi0 htu hen hpa hsg kk3 hkk3 lkk3 skk3) H.size) (zV hts k_670 v_X3_advance ⟨Nat.le_of_ble_eq_true rfl, Nat.le_of_ble_eq_true rfl⟩) (pV (pxS hK hP hD [0, 1, 2] (by decide) rfl) hK hP 0 rfl rfl) rfl rfl hl.1 rfl (lv_room (Nat.le_of_ble_eq_true rfl)) dX3_take_9 ⟨Nat.le_of_ble_eq_true rfl, Nat.le_of_ble_eq_true rfl⟩) hP hD hS hA [0, 1, 2] [] rfl rfl (by decide) (by decide) (fun u_12 H locs wr_11 hP hD hS => ?_)
    obtain ⟨pa_12, sg_12⟩ := u_12
    have hz_12_0 : pa_12 = pa + 1 := wr_11.1
    have hz_12_1 : pa_12 ≤ en := wr_11.2.1
    have hz_12_2 : SG sg_12 pa_12 en := wr_11.2.2
    have hP : va_P D vwCl [(a 2, .inr (3, [.ref (a 1), .ref (t 0), .int (nI en), .int (nI pa_12), .int sg_12, .int 6, .int fa])), (a 1, .inr (8, [.ref (a 17), .int (nI tu)])), (a 17, .inl (cB, 220, .inl tb))] H := hP
    have hD : va_D A [(a 2, .inr (3, [.ref (a 1), .ref (t 0), .int (nI en), .int (nI pa_12), .int sg_12, .int 6, .int fa])), (a 1, .inr (8, [.ref (a 17), .int (nI tu)])), (a 17, .inl (cB, 220, .inl tb))] := hD
    refine lv_goto (tgt := 20) hx hb dX3_take_12 (by decide) ?_
    exact W.vret hx hb hr (fun tt9 ht hW => ⟨⟨((pa_12 : Nat), (sg_12 : Int32), (fa : Int32)), rfl, (lf_X3_take_6_13 a t en pa (nI kk3) fa tu tb i0 hi0 htu hen hpa hsg kk3 hkk3 lkk3 skk3 pa_12 sg_12 hz_12_0 hz_12_1 hz_12_2), ⟨by rw [ht]; exact hP, hD⟩⟩, hS.F ht⟩) hS.2.2 dX3_take_20 hlocks
