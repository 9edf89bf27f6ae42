theorem fa_orN (a b : Nat) : nI a ||| nI b = nI (a ||| b) := by
  apply Int32.toBitVec_inj.mp
  rw [Int32.toBitVec_or]
  show BitVec.ofNat 32 a ||| BitVec.ofNat 32 b = BitVec.ofNat 32 (a ||| b)
  apply BitVec.eq_of_getLsbD_eq
  intro i hi
  simp [BitVec.getLsbD_or, BitVec.getLsbD_ofNat, hi, Nat.testBit_or]
theorem nn_or {o : Nat} {y : Int32} (k : Nat) (ho : o ≤ 99999) (hk : k < 16) (hy : y = nI k) : 0 ≤ (nI o <<< ((4 : Int32) &&& 31)) ||| y := by
  subst hy
  rw [pk_shlN ((4 : Int32) &&& 31) 4 (by decide) (by omega), fa_orN]
  exact nI_pos' (Nat.lt_trans (Nat.or_lt_two_pow (n := 21) (by omega) (by omega)) (by decide))
theorem st_upd {f g : Nat → Int32} {k : Nat} {x : Int32} (h : ∀ j, j < 200 → 0 ≤ f j) (e : g = upd f k x) (hx : 0 ≤ x) : ∀ j, j < 200 → 0 ≤ g j := by
  intro j hj
  rw [e]
  show 0 ≤ (if j = k then x else f j)
  split
  · exact hx
  · exact h j hj
theorem lf_X8_put_3 (a : Nat → Nat) (tu : Nat) (tb : Nat → Int32) (n1 : Int32) (htu : tu ≤ 220) (c_1 : 220 ≤ nI tu) : 220 ≤ tu := by
  exact (nI_leI (a := 220) (b := tu) (by omega) (by omega)).mp c_1
theorem lf_X8_put_4 (a : Nat → Nat) (tu : Nat) (tb : Nat → Int32) (n1 : Int32) (htu : tu ≤ 220) (c_1 : 220 ≤ nI tu) (n_2 : 220 ≤ tu) : ((tu : Nat) ≤ 220) := by
  first | omega | assumption | trivial
theorem lf_X8_put_6 (a : Nat → Nat) (tu : Nat) (tb : Nat → Int32) (n1 : Int32) (htu : tu ≤ 220) (c_1 : ¬ 220 ≤ nI tu) : tu < 220 := by
  exact Nat.lt_of_not_le (fun q => c_1 ((nI_leI (a := 220) (b := tu) (by omega) (by omega)).mpr q))
theorem lf_X8_put_10 (a : Nat → Nat) (tu : Nat) (tb : Nat → Int32) (n1 : Int32) (htu : tu ≤ 220) (c_1 : ¬ 220 ≤ nI tu) (n_5 : tu < 220) (x_7 : Int32) (x_8 : Int32) : vp_in (nI tu) 220 := by
  first | exact vp_in_nI (by omega) (by decide) | (unfold vp_in; decide)
theorem lf_X8_put_13 (a : Nat → Nat) (tu : Nat) (tb : Nat → Int32) (n1 : Int32) (htu : tu ≤ 220) (c_1 : ¬ 220 ≤ nI tu) (n_5 : tu < 220) (x_7 : Int32) (x_8 : Int32) (f_9 : Nat → Int32) (c_11 : 220 ≤ nI (tu + 1)) : 220 ≤ (tu + 1) := by
  exact (nI_leI (a := 220) (b := (tu + 1)) (by omega) (by omega)).mp c_11
theorem lf_X8_put_14 (a : Nat → Nat) (tu : Nat) (tb : Nat → Int32) (n1 : Int32) (htu : tu ≤ 220) (c_1 : ¬ 220 ≤ nI tu) (n_5 : tu < 220) (x_7 : Int32) (x_8 : Int32) (f_9 : Nat → Int32) (c_11 : 220 ≤ nI (tu + 1)) (n_12 : 220 ≤ (tu + 1)) : (((tu + 1) : Nat) ≤ 220) := by
  first | omega | assumption | trivial
theorem lf_X8_put_16 (a : Nat → Nat) (tu : Nat) (tb : Nat → Int32) (n1 : Int32) (htu : tu ≤ 220) (c_1 : ¬ 220 ≤ nI tu) (n_5 : tu < 220) (x_7 : Int32) (x_8 : Int32) (f_9 : Nat → Int32) (c_11 : ¬ 220 ≤ nI (tu + 1)) : (tu + 1) < 220 := by
  exact Nat.lt_of_not_le (fun q => c_11 ((nI_leI (a := 220) (b := (tu + 1)) (by omega) (by omega)).mpr q))
theorem lf_X8_put_20 (a : Nat → Nat) (tu : Nat) (tb : Nat → Int32) (n1 : Int32) (htu : tu ≤ 220) (c_1 : ¬ 220 ≤ nI tu) (n_5 : tu < 220) (x_7 : Int32) (x_8 : Int32) (f_9 : Nat → Int32) (c_11 : ¬ 220 ≤ nI (tu + 1)) (n_15 : (tu + 1) < 220) (x_17 : Int32) (x_18 : Int32) : vp_in (nI (tu + 1)) 220 := by
  first | exact vp_in_nI (by omega) (by decide) | (unfold vp_in; decide)
theorem lf_X8_put_23 (a : Nat → Nat) (tu : Nat) (tb : Nat → Int32) (n1 : Int32) (htu : tu ≤ 220) (c_1 : ¬ 220 ≤ nI tu) (n_5 : tu < 220) (x_7 : Int32) (x_8 : Int32) (f_9 : Nat → Int32) (c_11 : ¬ 220 ≤ nI (tu + 1)) (n_15 : (tu + 1) < 220) (x_17 : Int32) (x_18 : Int32) (f_19 : Nat → Int32) (c_21 : 220 ≤ nI ((tu + 1) + 1)) : 220 ≤ ((tu + 1) + 1) := by
  exact (nI_leI (a := 220) (b := ((tu + 1) + 1)) (by omega) (by omega)).mp c_21
theorem lf_X8_put_24 (a : Nat → Nat) (tu : Nat) (tb : Nat → Int32) (n1 : Int32) (htu : tu ≤ 220) (c_1 : ¬ 220 ≤ nI tu) (n_5 : tu < 220) (x_7 : Int32) (x_8 : Int32) (f_9 : Nat → Int32) (c_11 : ¬ 220 ≤ nI (tu + 1)) (n_15 : (tu + 1) < 220) (x_17 : Int32) (x_18 : Int32) (f_19 : Nat → Int32) (c_21 : 220 ≤ nI ((tu + 1) + 1)) (n_22 : 220 ≤ ((tu + 1) + 1)) : ((((tu + 1) + 1) : Nat) ≤ 220) := by
  first | omega | assumption | trivial
theorem lf_X8_put_26 (a : Nat → Nat) (tu : Nat) (tb : Nat → Int32) (n1 : Int32) (htu : tu ≤ 220) (c_1 : ¬ 220 ≤ nI tu) (n_5 : tu < 220) (x_7 : Int32) (x_8 : Int32) (f_9 : Nat → Int32) (c_11 : ¬ 220 ≤ nI (tu + 1)) (n_15 : (tu + 1) < 220) (x_17 : Int32) (x_18 : Int32) (f_19 : Nat → Int32) (c_21 : ¬ 220 ≤ nI ((tu + 1) + 1)) : ((tu + 1) + 1) < 220 := by
  exact Nat.lt_of_not_le (fun q => c_21 ((nI_leI (a := 220) (b := ((tu + 1) + 1)) (by omega) (by omega)).mpr q))
theorem lf_X8_put_30 (a : Nat → Nat) (tu : Nat) (tb : Nat → Int32) (n1 : Int32) (htu : tu ≤ 220) (c_1 : ¬ 220 ≤ nI tu) (n_5 : tu < 220) (x_7 : Int32) (x_8 : Int32) (f_9 : Nat → Int32) (c_11 : ¬ 220 ≤ nI (tu + 1)) (n_15 : (tu + 1) < 220) (x_17 : Int32) (x_18 : Int32) (f_19 : Nat → Int32) (c_21 : ¬ 220 ≤ nI ((tu + 1) + 1)) (n_25 : ((tu + 1) + 1) < 220) (x_27 : Int32) (x_28 : Int32) : vp_in (nI ((tu + 1) + 1)) 220 := by
  first | exact vp_in_nI (by omega) (by decide) | (unfold vp_in; decide)
theorem lf_X8_put_33 (a : Nat → Nat) (tu : Nat) (tb : Nat → Int32) (n1 : Int32) (htu : tu ≤ 220) (c_1 : ¬ 220 ≤ nI tu) (n_5 : tu < 220) (x_7 : Int32) (x_8 : Int32) (f_9 : Nat → Int32) (c_11 : ¬ 220 ≤ nI (tu + 1)) (n_15 : (tu + 1) < 220) (x_17 : Int32) (x_18 : Int32) (f_19 : Nat → Int32) (c_21 : ¬ 220 ≤ nI ((tu + 1) + 1)) (n_25 : ((tu + 1) + 1) < 220) (x_27 : Int32) (x_28 : Int32) (f_29 : Nat → Int32) (c_31 : 220 ≤ nI (((tu + 1) + 1) + 1)) : 220 ≤ (((tu + 1) + 1) + 1) := by
  exact (nI_leI (a := 220) (b := (((tu + 1) + 1) + 1)) (by omega) (by omega)).mp c_31
theorem lf_X8_put_34 (a : Nat → Nat) (tu : Nat) (tb : Nat → Int32) (n1 : Int32) (htu : tu ≤ 220) (c_1 : ¬ 220 ≤ nI tu) (n_5 : tu < 220) (x_7 : Int32) (x_8 : Int32) (f_9 : Nat → Int32) (c_11 : ¬ 220 ≤ nI (tu + 1)) (n_15 : (tu + 1) < 220) (x_17 : Int32) (x_18 : Int32) (f_19 : Nat → Int32) (c_21 : ¬ 220 ≤ nI ((tu + 1) + 1)) (n_25 : ((tu + 1) + 1) < 220) (x_27 : Int32) (x_28 : Int32) (f_29 : Nat → Int32) (c_31 : 220 ≤ nI (((tu + 1) + 1) + 1)) (n_32 : 220 ≤ (((tu + 1) + 1) + 1)) : (((((tu + 1) + 1) + 1) : Nat) ≤ 220) := by
  first | omega | assumption | trivial
theorem lf_X8_put_36 (a : Nat → Nat) (tu : Nat) (tb : Nat → Int32) (n1 : Int32) (htu : tu ≤ 220) (c_1 : ¬ 220 ≤ nI tu) (n_5 : tu < 220) (x_7 : Int32) (x_8 : Int32) (f_9 : Nat → Int32) (c_11 : ¬ 220 ≤ nI (tu + 1)) (n_15 : (tu + 1) < 220) (x_17 : Int32) (x_18 : Int32) (f_19 : Nat → Int32) (c_21 : ¬ 220 ≤ nI ((tu + 1) + 1)) (n_25 : ((tu + 1) + 1) < 220) (x_27 : Int32) (x_28 : Int32) (f_29 : Nat → Int32) (c_31 : ¬ 220 ≤ nI (((tu + 1) + 1) + 1)) : (((tu + 1) + 1) + 1) < 220 := by
  exact Nat.lt_of_not_le (fun q => c_31 ((nI_leI (a := 220) (b := (((tu + 1) + 1) + 1)) (by omega) (by omega)).mpr q))
theorem lf_X8_put_40 (a : Nat → Nat) (tu : Nat) (tb : Nat → Int32) (n1 : Int32) (htu : tu ≤ 220) (c_1 : ¬ 220 ≤ nI tu) (n_5 : tu < 220) (x_7 : Int32) (x_8 : Int32) (f_9 : Nat → Int32) (c_11 : ¬ 220 ≤ nI (tu + 1)) (n_15 : (tu + 1) < 220) (x_17 : Int32) (x_18 : Int32) (f_19 : Nat → Int32) (c_21 : ¬ 220 ≤ nI ((tu + 1) + 1)) (n_25 : ((tu + 1) + 1) < 220) (x_27 : Int32) (x_28 : Int32) (f_29 : Nat → Int32) (c_31 : ¬ 220 ≤ nI (((tu + 1) + 1) + 1)) (n_35 : (((tu + 1) + 1) + 1) < 220) (x_37 : Int32) (x_38 : Int32) : vp_in (nI (((tu + 1) + 1) + 1)) 220 := by
  first | exact vp_in_nI (by omega) (by decide) | (unfold vp_in; decide)
theorem lf_X8_put_41 (a : Nat → Nat) (tu : Nat) (tb : Nat → Int32) (n1 : Int32) (htu : tu ≤ 220) (c_1 : ¬ 220 ≤ nI tu) (n_5 : tu < 220) (x_7 : Int32) (x_8 : Int32) (f_9 : Nat → Int32) (c_11 : ¬ 220 ≤ nI (tu + 1)) (n_15 : (tu + 1) < 220) (x_17 : Int32) (x_18 : Int32) (f_19 : Nat → Int32) (c_21 : ¬ 220 ≤ nI ((tu + 1) + 1)) (n_25 : ((tu + 1) + 1) < 220) (x_27 : Int32) (x_28 : Int32) (f_29 : Nat → Int32) (c_31 : ¬ 220 ≤ nI (((tu + 1) + 1) + 1)) (n_35 : (((tu + 1) + 1) + 1) < 220) (x_37 : Int32) (x_38 : Int32) (f_39 : Nat → Int32) : ((((((tu + 1) + 1) + 1) + 1) : Nat) ≤ 220) := by
  first | omega | assumption | trivial
set_option maxHeartbeats 4000000 in
set_option maxRecDepth 100000 in
theorem c_X8_put (l : Launch) (D : va_G) (cI cB cZ cJ : ClassId) (tx : List (ClassId × FieldType)) (a : Nat → Nat) (tu : Nat) (tb : Nat → Int32) (n1 : Int32) (htu : tu ≤ 220) : WrV l D cI cB cZ cJ tx yX8_put cX8_put 3 none 0 0 0 [.ref (a 1), .int n1] [(a 1, .inr (8, [.ref (a 17), .int (nI tu)])), (a 17, .inl (cB, 220, .inl tb))] (fun (v : (Nat) × (Nat → Int32)) => (v.1 ≤ 220)) (fun v => [(a 1, .inr (8, [.ref (a 17), .int (nI (v.1))])), (a 17, .inl (cB, 220, .inl v.2))]) := by
  refine wrv_of2 (by decide) (Nat.le_of_ble_eq_true rfl) ?_
  intro p e s m below meth c A ls H locs hC hK hP hD hA hS hl
  obtain ⟨hx, hb, hr, hml, hown, hts, hlocks, hin⟩ := hC
  have hown : s.vm.findClass RX8 = some m.cls := hown
  have hl : lv_has ls 3 [(0, .ref (a 1)), (1, .int n1)] := hl
  refine lv_bipush (v := 24) hx hb dX8_put_0 (by decide) ?_
  refine lv_istore_n (lv' := [(2, .int 24), (0, .ref (a 1)), (1, .int n1)]) hx hb dX8_put_2 rfl hl (by decide) rfl (fun ls hl => ?_)
  refine lv_iload_n hx hb dX8_put_3 rfl (lv_at hl 0 rfl) ?_
  refine lv_if_lt (tgt := 48) hx hb dX8_put_4 (by decide) (fun c => absurd c (by decide)) (fun _ => ?_)
  refine lv_aload_n hx hb dX8_put_7 rfl (lv_at hl 1 rfl) ?_
  refine va_get (D := D) (ci := 8) (v := .int (nI tu)) (C := RX8) (T := TX8) (N := 2) hx hb hts inT_X8 hown hK.1 hP 0 rfl rfl 1 (by decide) (hts _ k_151) (fun _ h9 => h9) rfl dX8_put_8 ?_
  refine lv_aload_n hx hb dX8_put_11 rfl (lv_at hl 1 rfl) ?_
  refine va_get (D := D) (ci := 8) (v := .ref (a 17)) (C := RX8) (T := TX8) (N := 2) hx hb hts inT_X8 hown hK.1 hP 0 rfl rfl 0 (by decide) (hts _ k_150) (fun _ h9 => h9) rfl dX8_put_12 ?_
  refine ln_x (v := 220) hx hb hK hP 1 1 rfl rfl (show Int32.ofNat 220 = 220 from by decide) dX8_put_15 ?_
  refine lv_icmp_ge (tgt := 48) hx hb dX8_put_16 (by decide) (fun c_1 => ?_) (fun c_1 => ?_)
  · have n_2 : 220 ≤ tu := (lf_X8_put_3 a tu tb n1 htu c_1)
    exact W.vret hx hb hr (fun tt9 ht hW => ⟨⟨((tu : Nat), (tb : Nat → Int32)), rfl, (lf_X8_put_4 a tu tb n1 htu c_1 n_2), ⟨by rw [ht]; exact hP, hD⟩⟩, hS.F ht⟩) hS.2.2 dX8_put_48 hlocks
  · have n_5 : tu < 220 := (lf_X8_put_6 a tu tb n1 htu c_1)
    refine lv_aload_n hx hb dX8_put_19 rfl (lv_at hl 1 rfl) ?_
    refine va_get (D := D) (ci := 8) (v := .ref (a 17)) (C := RX8) (T := TX8) (N := 2) hx hb hts inT_X8 hown hK.1 hP 0 rfl rfl 0 (by decide) (hts _ k_150) (fun _ h9 => h9) rfl dX8_put_20 ?_
    refine lv_aload_n hx hb dX8_put_23 rfl (lv_at hl 1 rfl) ?_
    refine va_get (D := D) (ci := 8) (v := .int (nI tu)) (C := RX8) (T := TX8) (N := 2) hx hb hts inT_X8 hown hK.1 hP 0 rfl rfl 1 (by decide) (hts _ k_151) (fun _ h9 => h9) rfl dX8_put_24 ?_
    refine lv_iload_n hx hb dX8_put_27 rfl (lv_at hl 2 rfl) ?_
    refine lv_iload_n hx hb dX8_put_28 rfl (lv_at hl 0 rfl) ?_
    refine lv_iushr hx hb dX8_put_29 rfl ?_
    refine lv_topi (fun x_7 _ => ?_)
    refine lv_i2b hx hb dX8_put_30 rfl ?_
    refine lv_topi (fun x_8 _ => ?_)
    refine st_b hx hb hK hP hD hS 1 rfl (lf_X8_put_10 a tu tb n1 htu c_1 n_5 x_7 x_8) dX8_put_31 (fun f_9 H locs hP hD hS => ?_)
    have hP : va_P D vwCl [(a 1, .inr (8, [.ref (a 17), .int (nI tu)])), (a 17, .inl (cB, 220, .inl f_9))] H := hP
    have hD : va_D A [(a 1, .inr (8, [.ref (a 17), .int (nI tu)])), (a 17, .inl (cB, 220, .inl f_9))] := hD
    refine lv_aload_n hx hb dX8_put_32 rfl (lv_at hl 1 rfl) ?_
    refine lv_dup hx hb dX8_put_33 rfl ?_
    refine va_get (D := D) (ci := 8) (v := .int (nI tu)) (C := RX8) (T := TX8) (N := 2) hx hb hts inT_X8 hown hK.1 hP 0 rfl rfl 1 (by decide) (hts _ k_151) (fun _ h9 => h9) rfl dX8_put_34 ?_
    refine lv_iconst (v := 1) hx hb dX8_put_37 (by decide) ?_
    refine lv_iadd hx hb dX8_put_38 ?_
    refine lv_topv (y := nI (tu + 1)) (nI_add tu 1) ?_
    refine va_put (D := D) (ci := 8) (v := .int (nI (tu + 1))) (ty := .int) (C := RX8) (T := TX8) (N := 2) hx hb hts inT_X8 tyX8 tyX8_ok nmX8 hown hK.1 hP hD hS 0 rfl rfl 1 (by decide) (hts _ k_151) (fun _ h9 => h9) rfl (by decide +kernel) rfl rfl (Nat.le_of_ble_eq_true rfl) dX8_put_39 (fun H locs hP hD hS => ?_)
    have hP : va_P D vwCl [(a 1, .inr (8, [.ref (a 17), .int (nI (tu + 1))])), (a 17, .inl (cB, 220, .inl f_9))] H := hP
    have hD : va_D A [(a 1, .inr (8, [.ref (a 17), .int (nI (tu + 1))])), (a 17, .inl (cB, 220, .inl f_9))] := hD
    refine lv_iinc (v := 16) (lv' := [(2, .int 16), (0, .ref (a 1)), (1, .int n1)]) hx hb dX8_put_42 hl (k := 0) rfl (by decide) (by decide) rfl (fun ls hl => ?_)
    refine lv_goto (tgt := 3) hx hb dX8_put_45 (by decide) ?_
    refine lv_iload_n hx hb dX8_put_3 rfl (lv_at hl 0 rfl) ?_
    refine lv_if_lt (tgt := 48) hx hb dX8_put_4 (by decide) (fun c => absurd c (by decide)) (fun _ => ?_)
    refine lv_aload_n hx hb dX8_put_7 rfl (lv_at hl 1 rfl) ?_
    refine va_get (D := D) (ci := 8) (v := .int (nI (tu + 1))) (C := RX8) (T := TX8) (N := 2) hx hb hts inT_X8 hown hK.1 hP 0 rfl rfl 1 (by decide) (hts _ k_151) (fun _ h9 => h9) rfl dX8_put_8 ?_
    refine lv_aload_n hx hb dX8_put_11 rfl (lv_at hl 1 rfl) ?_
    refine va_get (D := D) (ci := 8) (v := .ref (a 17)) (C := RX8) (T := TX8) (N := 2) hx hb hts inT_X8 hown hK.1 hP 0 rfl rfl 0 (by decide) (hts _ k_150) (fun _ h9 => h9) rfl dX8_put_12 ?_
    refine ln_x (v := 220) hx hb hK hP 1 1 rfl rfl (show Int32.ofNat 220 = 220 from by decide) dX8_put_15 ?_
    refine lv_icmp_ge (tgt := 48) hx hb dX8_put_16 (by decide) (fun c_11 => ?_) (fun c_11 => ?_)
    · have n_12 : 220 ≤ (tu + 1) := (lf_X8_put_13 a tu tb n1 htu c_1 n_5 x_7 x_8 f_9 c_11)
      exact W.vret hx hb hr (fun tt9 ht hW => ⟨⟨(((tu + 1) : Nat), (f_9 : Nat → Int32)), rfl, (lf_X8_put_14 a tu tb n1 htu c_1 n_5 x_7 x_8 f_9 c_11 n_12), ⟨by rw [ht]; exact hP, hD⟩⟩, hS.F ht⟩) hS.2.2 dX8_put_48 hlocks
    · have n_15 : (tu + 1) < 220 := (lf_X8_put_16 a tu tb n1 htu c_1 n_5 x_7 x_8 f_9 c_11)
      refine lv_aload_n hx hb dX8_put_19 rfl (lv_at hl 1 rfl) ?_
      refine va_get (D := D) (ci := 8) (v := .ref (a 17)) (C := RX8) (T := TX8) (N := 2) hx hb hts inT_X8 hown hK.1 hP 0 rfl rfl 0 (by decide) (hts _ k_150) (fun _ h9 => h9) rfl dX8_put_20 ?_
      refine lv_aload_n hx hb dX8_put_23 rfl (lv_at hl 1 rfl) ?_
      refine va_get (D := D) (ci := 8) (v := .int (nI (tu + 1))) (C := RX8) (T := TX8) (N := 2) hx hb hts inT_X8 hown hK.1 hP 0 rfl rfl 1 (by decide) (hts _ k_151) (fun _ h9 => h9) rfl dX8_put_24 ?_
      refine lv_iload_n hx hb dX8_put_27 rfl (lv_at hl 2 rfl) ?_
      refine lv_iload_n hx hb dX8_put_28 rfl (lv_at hl 0 rfl) ?_
      refine lv_iushr hx hb dX8_put_29 rfl ?_
      refine lv_topi (fun x_17 _ => ?_)
      refine lv_i2b hx hb dX8_put_30 rfl ?_
      refine lv_topi (fun x_18 _ => ?_)
      refine st_b hx hb hK hP hD hS 1 rfl (lf_X8_put_20 a tu tb n1 htu c_1 n_5 x_7 x_8 f_9 c_11 n_15 x_17 x_18) dX8_put_31 (fun f_19 H locs hP hD hS => ?_)
      have hP : va_P D vwCl [(a 1, .inr (8, [.ref (a 17), .int (nI (tu + 1))])), (a 17, .inl (cB, 220, .inl f_19))] H := hP
      have hD : va_D A [(a 1, .inr (8, [.ref (a 17), .int (nI (tu + 1))])), (a 17, .inl (cB, 220, .inl f_19))] := hD
      refine lv_aload_n hx hb dX8_put_32 rfl (lv_at hl 1 rfl) ?_
      refine lv_dup hx hb dX8_put_33 rfl ?_
      refine va_get (D := D) (ci := 8) (v := .int (nI (tu + 1))) (C := RX8) (T := TX8) (N := 2) hx hb hts inT_X8 hown hK.1 hP 0 rfl rfl 1 (by decide) (hts _ k_151) (fun _ h9 => h9) rfl dX8_put_34 ?_
      refine lv_iconst (v := 1) hx hb dX8_put_37 (by decide) ?_
      refine lv_iadd hx hb dX8_put_38 ?_
      refine lv_topv (y := nI ((tu + 1) + 1)) (nI_add (tu + 1) 1) ?_
      refine va_put (D := D) (ci := 8) (v := .int (nI ((tu + 1) + 1))) (ty := .int) (C := RX8) (T := TX8) (N := 2) hx hb hts inT_X8 tyX8 tyX8_ok nmX8 hown hK.1 hP hD hS 0 rfl rfl 1 (by decide) (hts _ k_151) (fun _ h9 => h9) rfl (by decide +kernel) rfl rfl (Nat.le_of_ble_eq_true rfl) dX8_put_39 (fun H locs hP hD hS => ?_)
      have hP : va_P D vwCl [(a 1, .inr (8, [.ref (a 17), .int (nI ((tu + 1) + 1))])), (a 17, .inl (cB, 220, .inl f_19))] H := hP
      have hD : va_D A [(a 1, .inr (8, [.ref (a 17), .int (nI ((tu + 1) + 1))])), (a 17, .inl (cB, 220, .inl f_19))] := hD
      refine lv_iinc (v := 8) (lv' := [(2, .int 8), (0, .ref (a 1)), (1, .int n1)]) hx hb dX8_put_42 hl (k := 0) rfl (by decide) (by decide) rfl (fun ls hl => ?_)
      refine lv_goto (tgt := 3) hx hb dX8_put_45 (by decide) ?_
      refine lv_iload_n hx hb dX8_put_3 rfl (lv_at hl 0 rfl) ?_
      refine lv_if_lt (tgt := 48) hx hb dX8_put_4 (by decide) (fun c => absurd c (by decide)) (fun _ => ?_)
      refine lv_aload_n hx hb dX8_put_7 rfl (lv_at hl 1 rfl) ?_
      refine va_get (D := D) (ci := 8) (v := .int (nI ((tu + 1) + 1))) (C := RX8) (T := TX8) (N := 2) hx hb hts inT_X8 hown hK.1 hP 0 rfl rfl 1 (by decide) (hts _ k_151) (fun _ h9 => h9) rfl dX8_put_8 ?_
      refine lv_aload_n hx hb dX8_put_11 rfl (lv_at hl 1 rfl) ?_
      refine va_get (D := D) (ci := 8) (v := .ref (a 17)) (C := RX8) (T := TX8) (N := 2) hx hb hts inT_X8 hown hK.1 hP 0 rfl rfl 0 (by decide) (hts _ k_150) (fun _ h9 => h9) rfl dX8_put_12 ?_
      refine ln_x (v := 220) hx hb hK hP 1 1 rfl rfl (show Int32.ofNat 220 = 220 from by decide) dX8_put_15 ?_
      refine lv_icmp_ge (tgt := 48) hx hb dX8_put_16 (by decide) (fun c_21 => ?_) (fun c_21 => ?_)
      · have n_22 : 220 ≤ ((tu + 1) + 1) := (lf_X8_put_23 a tu tb n1 htu c_1 n_5 x_7 x_8 f_9 c_11 n_15 x_17 x_18 f_19 c_21)
        exact W.vret hx hb hr (fun tt9 ht hW => ⟨⟨((((tu + 1) + 1) : Nat), (f_19 : Nat → Int32)), rfl, (lf_X8_put_24 a tu tb n1 htu c_1 n_5 x_7 x_8 f_9 c_11 n_15 x_17 x_18 f_19 c_21 n_22), ⟨by rw [ht]; exact hP, hD⟩⟩, hS.F ht⟩) hS.2.2 dX8_put_48 hlocks
      · have n_25 : ((tu + 1) + 1) < 220 := (lf_X8_put_26 a tu tb n1 htu c_1 n_5 x_7 x_8 f_9 c_11 n_15 x_17 x_18 f_19 c_21)
        refine lv_aload_n hx hb dX8_put_19 rfl (lv_at hl 1 rfl) ?_
        refine va_get (D := D) (ci := 8) (v := .ref (a 17)) (C := RX8) (T := TX8) (N := 2) hx hb hts inT_X8 hown hK.1 hP 0 rfl rfl 0 (by decide) (hts _ k_150) (fun _ h9 => h9) rfl dX8_put_20 ?_
        refine lv_aload_n hx hb dX8_put_23 rfl (lv_at hl 1 rfl) ?_
        refine va_get (D := D) (ci := 8) (v := .int (nI ((tu + 1) + 1))) (C := RX8) (T := TX8) (N := 2) hx hb hts inT_X8 hown hK.1 hP 0 rfl rfl 1 (by decide) (hts _ k_151) (fun _ h9 => h9) rfl dX8_put_24 ?_
        refine lv_iload_n hx hb dX8_put_27 rfl (lv_at hl 2 rfl) ?_
        refine lv_iload_n hx hb dX8_put_28 rfl (lv_at hl 0 rfl) ?_
        refine lv_iushr hx hb dX8_put_29 rfl ?_
        refine lv_topi (fun x_27 _ => ?_)
        refine lv_i2b hx hb dX8_put_30 rfl ?_
        refine lv_topi (fun x_28 _ => ?_)
        refine st_b hx hb hK hP hD hS 1 rfl (lf_X8_put_30 a tu tb n1 htu c_1 n_5 x_7 x_8 f_9 c_11 n_15 x_17 x_18 f_19 c_21 n_25 x_27 x_28) dX8_put_31 (fun f_29 H locs hP hD hS => ?_)
        have hP : va_P D vwCl [(a 1, .inr (8, [.ref (a 17), .int (nI ((tu + 1) + 1))])), (a 17, .inl (cB, 220, .inl f_29))] H := hP
        have hD : va_D A [(a 1, .inr (8, [.ref (a 17), .int (nI ((tu + 1) + 1))])), (a 17, .inl (cB, 220, .inl f_29))] := hD
        refine lv_aload_n hx hb dX8_put_32 rfl (lv_at hl 1 rfl) ?_
        refine lv_dup hx hb dX8_put_33 rfl ?_
        refine va_get (D := D) (ci := 8) (v := .int (nI ((tu + 1) + 1))) (C := RX8) (T := TX8) (N := 2) hx hb hts inT_X8 hown hK.1 hP 0 rfl rfl 1 (by decide) (hts _ k_151) (fun _ h9 => h9) rfl dX8_put_34 ?_
        refine lv_iconst (v := 1) hx hb dX8_put_37 (by decide) ?_
        refine lv_iadd hx hb dX8_put_38 ?_
        refine lv_topv (y := nI (((tu + 1) + 1) + 1)) (nI_add ((tu + 1) + 1) 1) ?_
        refine va_put (D := D) (ci := 8) (v := .int (nI (((tu + 1) + 1) + 1))) (ty := .int) (C := RX8) (T := TX8) (N := 2) hx hb hts inT_X8 tyX8 tyX8_ok nmX8 hown hK.1 hP hD hS 0 rfl rfl 1 (by decide) (hts _ k_151) (fun _ h9 => h9) rfl (by decide +kernel) rfl rfl (Nat.le_of_ble_eq_true rfl) dX8_put_39 (fun H locs hP hD hS => ?_)
        have hP : va_P D vwCl [(a 1, .inr (8, [.ref (a 17), .int (nI (((tu + 1) + 1) + 1))])), (a 17, .inl (cB, 220, .inl f_29))] H := hP
        have hD : va_D A [(a 1, .inr (8, [.ref (a 17), .int (nI (((tu + 1) + 1) + 1))])), (a 17, .inl (cB, 220, .inl f_29))] := hD
        refine lv_iinc (v := 0) (lv' := [(2, .int 0), (0, .ref (a 1)), (1, .int n1)]) hx hb dX8_put_42 hl (k := 0) rfl (by decide) (by decide) rfl (fun ls hl => ?_)
        refine lv_goto (tgt := 3) hx hb dX8_put_45 (by decide) ?_
        refine lv_iload_n hx hb dX8_put_3 rfl (lv_at hl 0 rfl) ?_
        refine lv_if_lt (tgt := 48) hx hb dX8_put_4 (by decide) (fun c => absurd c (by decide)) (fun _ => ?_)
        refine lv_aload_n hx hb dX8_put_7 rfl (lv_at hl 1 rfl) ?_
        refine va_get (D := D) (ci := 8) (v := .int (nI (((tu + 1) + 1) + 1))) (C := RX8) (T := TX8) (N := 2) hx hb hts inT_X8 hown hK.1 hP 0 rfl rfl 1 (by decide) (hts _ k_151) (fun _ h9 => h9) rfl dX8_put_8 ?_
        refine lv_aload_n hx hb dX8_put_11 rfl (lv_at hl 1 rfl) ?_
        refine va_get (D := D) (ci := 8) (v := .ref (a 17)) (C := RX8) (T := TX8) (N := 2) hx hb hts inT_X8 hown hK.1 hP 0 rfl rfl 0 (by decide) (hts _ k_150) (fun _ h9 => h9) rfl dX8_put_12 ?_
        refine ln_x (v := 220) hx hb hK hP 1 1 rfl rfl (show Int32.ofNat 220 = 220 from by decide) dX8_put_15 ?_
        refine lv_icmp_ge (tgt := 48) hx hb dX8_put_16 (by decide) (fun c_31 => ?_) (fun c_31 => ?_)
        · have n_32 : 220 ≤ (((tu + 1) + 1) + 1) := (lf_X8_put_33 a tu tb n1 htu c_1 n_5 x_7 x_8 f_9 c_11 n_15 x_17 x_18 f_19 c_21 n_25 x_27 x_28 f_29 c_31)
          exact W.vret hx hb hr (fun tt9 ht hW => ⟨⟨(((((tu + 1) + 1) + 1) : Nat), (f_29 : Nat → Int32)), rfl, (lf_X8_put_34 a tu tb n1 htu c_1 n_5 x_7 x_8 f_9 c_11 n_15 x_17 x_18 f_19 c_21 n_25 x_27 x_28 f_29 c_31 n_32), ⟨by rw [ht]; exact hP, hD⟩⟩, hS.F ht⟩) hS.2.2 dX8_put_48 hlocks
        · have n_35 : (((tu + 1) + 1) + 1) < 220 := (lf_X8_put_36 a tu tb n1 htu c_1 n_5 x_7 x_8 f_9 c_11 n_15 x_17 x_18 f_19 c_21 n_25 x_27 x_28 f_29 c_31)
          refine lv_aload_n hx hb dX8_put_19 rfl (lv_at hl 1 rfl) ?_
          refine va_get (D := D) (ci := 8) (v := .ref (a 17)) (C := RX8) (T := TX8) (N := 2) hx hb hts inT_X8 hown hK.1 hP 0 rfl rfl 0 (by decide) (hts _ k_150) (fun _ h9 => h9) rfl dX8_put_20 ?_
          refine lv_aload_n hx hb dX8_put_23 rfl (lv_at hl 1 rfl) ?_
          refine va_get (D := D) (ci := 8) (v := .int (nI (((tu + 1) + 1) + 1))) (C := RX8) (T := TX8) (N := 2) hx hb hts inT_X8 hown hK.1 hP 0 rfl rfl 1 (by decide) (hts _ k_151) (fun _ h9 => h9) rfl dX8_put_24 ?_
          refine lv_iload_n hx hb dX8_put_27 rfl (lv_at hl 2 rfl) ?_
          refine lv_iload_n hx hb dX8_put_28 rfl (lv_at hl 0 rfl) ?_
          refine lv_iushr hx hb dX8_put_29 rfl ?_
          refine lv_topi (fun x_37 _ => ?_)
          refine lv_i2b hx hb dX8_put_30 rfl ?_
          refine lv_topi (fun x_38 _ => ?_)
          refine st_b hx hb hK hP hD hS 1 rfl (lf_X8_put_40 a tu tb n1 htu c_1 n_5 x_7 x_8 f_9 c_11 n_15 x_17 x_18 f_19 c_21 n_25 x_27 x_28 f_29 c_31 n_35 x_37 x_38) dX8_put_31 (fun f_39 H locs hP hD hS => ?_)
          have hP : va_P D vwCl [(a 1, .inr (8, [.ref (a 17), .int (nI (((tu + 1) + 1) + 1))])), (a 17, .inl (cB, 220, .inl f_39))] H := hP
          have hD : va_D A [(a 1, .inr (8, [.ref (a 17), .int (nI (((tu + 1) + 1) + 1))])), (a 17, .inl (cB, 220, .inl f_39))] := hD
          refine lv_aload_n hx hb dX8_put_32 rfl (lv_at hl 1 rfl) ?_
          refine lv_dup hx hb dX8_put_33 rfl ?_
          refine va_get (D := D) (ci := 8) (v := .int (nI (((tu + 1) + 1) + 1))) (C := RX8) (T := TX8) (N := 2) hx hb hts inT_X8 hown hK.1 hP 0 rfl rfl 1 (by decide) (hts _ k_151) (fun _ h9 => h9) rfl dX8_put_34 ?_
          refine lv_iconst (v := 1) hx hb dX8_put_37 (by decide) ?_
          refine lv_iadd hx hb dX8_put_38 ?_
          refine lv_topv (y := nI ((((tu + 1) + 1) + 1) + 1)) (nI_add (((tu + 1) + 1) + 1) 1) ?_
          refine va_put (D := D) (ci := 8) (v := .int (nI ((((tu + 1) + 1) + 1) + 1))) (ty := .int) (C := RX8) (T := TX8) (N := 2) hx hb hts inT_X8 tyX8 tyX8_ok nmX8 hown hK.1 hP hD hS 0 rfl rfl 1 (by decide) (hts _ k_151) (fun _ h9 => h9) rfl (by decide +kernel) rfl rfl (Nat.le_of_ble_eq_true rfl) dX8_put_39 (fun H locs hP hD hS => ?_)
          have hP : va_P D vwCl [(a 1, .inr (8, [.ref (a 17), .int (nI ((((tu + 1) + 1) + 1) + 1))])), (a 17, .inl (cB, 220, .inl f_39))] H := hP
          have hD : va_D A [(a 1, .inr (8, [.ref (a 17), .int (nI ((((tu + 1) + 1) + 1) + 1))])), (a 17, .inl (cB, 220, .inl f_39))] := hD
          refine lv_iinc (v := (-8)) (lv' := [(2, .int (-8)), (0, .ref (a 1)), (1, .int n1)]) hx hb dX8_put_42 hl (k := 0) rfl (by decide) (by decide) rfl (fun ls hl => ?_)
          refine lv_goto (tgt := 3) hx hb dX8_put_45 (by decide) ?_
          refine lv_iload_n hx hb dX8_put_3 rfl (lv_at hl 0 rfl) ?_
          refine lv_if_lt (tgt := 48) hx hb dX8_put_4 (by decide) (fun _ => ?_) (fun c => absurd c (by decide))
          exact W.vret hx hb hr (fun tt9 ht hW => ⟨⟨((((((tu + 1) + 1) + 1) + 1) : Nat), (f_39 : Nat → Int32)), rfl, (lf_X8_put_41 a tu tb n1 htu c_1 n_5 x_7 x_8 f_9 c_11 n_15 x_17 x_18 f_19 c_21 n_25 x_27 x_28 f_29 c_31 n_35 x_37 x_38 f_39), ⟨by rw [ht]; exact hP, hD⟩⟩, hS.F ht⟩) hS.2.2 dX8_put_48 hlocks

set_option maxHeartbeats 4000000 in
set_option maxRecDepth 100000 in
theorem c_X8_hasRoom (l : Launch) (D : va_G) (cI cB cZ cJ : ClassId) (tx : List (ClassId × FieldType)) (a : Nat → Nat) (tu : Nat) (tb : Nat → Int32) (n1 : Int32) : RdI l D cI cB cZ cJ tx yX8_hasRoom cX8_hasRoom 2 (some .boolean) 0 [.ref (a 1), .int n1] [(a 1, .inr (8, [.ref (a 17), .int (nI tu)])), (a 17, .inl (cB, 220, .inl tb))] (fun r => True) := by
  refine rdi_of2 (by decide) (Nat.le_of_ble_eq_true rfl) ?_
  intro p e s m below meth c A ls H locs hC hK hP hD hA hS hl
  obtain ⟨hx, hb, hr, hml, hown, hts, hlocks, hin⟩ := hC
  have hown : s.vm.findClass RX8 = some m.cls := hown
  have hl : lv_has ls 2 [(0, .ref (a 1)), (1, .int n1)] := hl
  refine lv_iload_n hx hb dX8_hasRoom_0 rfl (lv_at hl 1 rfl) ?_
  refine lv_aload_n hx hb dX8_hasRoom_1 rfl (lv_at hl 0 rfl) ?_
  refine va_get (D := D) (ci := 8) (v := .ref (a 17)) (C := RX8) (T := TX8) (N := 2) hx hb hts inT_X8 hown hK.1 hP 0 rfl rfl 0 (by decide) (hts _ k_150) (fun _ h9 => h9) rfl dX8_hasRoom_2 ?_
  refine ln_x (v := 220) hx hb hK hP 1 1 rfl rfl (show Int32.ofNat 220 = 220 from by decide) dX8_hasRoom_5 ?_
  refine lv_aload_n hx hb dX8_hasRoom_6 rfl (lv_at hl 0 rfl) ?_
  refine va_get (D := D) (ci := 8) (v := .int (nI tu)) (C := RX8) (T := TX8) (N := 2) hx hb hts inT_X8 hown hK.1 hP 0 rfl rfl 1 (by decide) (hts _ k_151) (fun _ h9 => h9) rfl dX8_hasRoom_7 ?_
  refine lv_isub hx hb dX8_hasRoom_10 ?_
  refine lv_topi (fun x_1 ex_1 => ?_)
  refine lv_icmp_gt (tgt := 18) hx hb dX8_hasRoom_11 (by decide) (fun c_2 => ?_) (fun c_2 => ?_)
  · refine lv_iconst (v := 0) hx hb dX8_hasRoom_18 (by decide) ?_
    exact W.zret (v := 0) hx hb hr (by decide) (fun tt9 ht hW => ⟨⟨(0 : Int32), (), rfl, trivial, trivial⟩, hS.F ht⟩) hS.2.2 dX8_hasRoom_19 hlocks
  · refine lv_iconst (v := 1) hx hb dX8_hasRoom_14 (by decide) ?_
    refine lv_goto (tgt := 19) hx hb dX8_hasRoom_15 (by decide) ?_
    exact W.zret (v := 1) hx hb hr (by decide) (fun tt9 ht hW => ⟨⟨(1 : Int32), (), rfl, trivial, trivial⟩, hS.F ht⟩) hS.2.2 dX8_hasRoom_19 hlocks

theorem lf_X9_clear_1 (t : Nat → Nat) (un : Nat) (k1 : Nat) (p1 : Nat) (rf : Int32) : ((0 : Nat) ≤ 200) ∧ ((0 : Nat) ≤ 14) := by
  exact ⟨by omega, by omega⟩
set_option maxHeartbeats 4000000 in
set_option maxRecDepth 100000 in
theorem c_X9_clear (l : Launch) (D : va_G) (cI cB cZ cJ : ClassId) (tx : List (ClassId × FieldType)) (t : Nat → Nat) (un : Nat) (k1 : Nat) (p1 : Nat) (rf : Int32) : WrV l D cI cB cZ cJ tx yX9_clear cX9_clear 1 none 0 0 0 [.ref (t 0)] [(t 0, .inr (9, [.ref (t 1), .ref (t 2), .ref (t 3), .ref (t 4), .ref (t 5), .int (nI un), .int (nI k1), .int (nI p1), .int rf]))] (fun (v : (Nat) × (Nat)) => (v.1 ≤ 200) ∧ (v.2 ≤ 14)) (fun v => [(t 0, .inr (9, [.ref (t 1), .ref (t 2), .ref (t 3), .ref (t 4), .ref (t 5), .int (nI (v.1)), .int (nI (v.2)), .int (nI p1), .int rf]))]) := by
  refine wrv_of2 (by decide) (Nat.le_of_ble_eq_true rfl) ?_
  intro p e s m below meth c A ls H locs hC hK hP hD hA hS hl
  obtain ⟨hx, hb, hr, hml, hown, hts, hlocks, hin⟩ := hC
  have hown : s.vm.findClass RX9 = some m.cls := hown
  have hl : lv_has ls 1 [(0, .ref (t 0))] := hl
  refine lv_aload_n hx hb dX9_clear_0 rfl (lv_at hl 0 rfl) ?_
  refine lv_iconst (v := 0) hx hb dX9_clear_1 (by decide) ?_
  refine va_put (D := D) (ci := 9) (v := .int 0) (ty := .int) (C := RX9) (T := TX9) (N := 9) hx hb hts inT_X9 tyX9 tyX9_ok nmX9 hown hK.1 hP hD hS 0 rfl rfl 5 (by decide) (hts _ k_199) (fun _ h9 => h9) rfl (by decide +kernel) rfl rfl (Nat.le_of_ble_eq_true rfl) dX9_clear_2 (fun H locs hP hD hS => ?_)
  have hP : va_P D vwCl [(t 0, .inr (9, [.ref (t 1), .ref (t 2), .ref (t 3), .ref (t 4), .ref (t 5), .int 0, .int (nI k1), .int (nI p1), .int rf]))] H := hP
  have hD : va_D A [(t 0, .inr (9, [.ref (t 1), .ref (t 2), .ref (t 3), .ref (t 4), .ref (t 5), .int 0, .int (nI k1), .int (nI p1), .int rf]))] := hD
  refine lv_aload_n hx hb dX9_clear_5 rfl (lv_at hl 0 rfl) ?_
  refine lv_iconst (v := 0) hx hb dX9_clear_6 (by decide) ?_
  refine va_put (D := D) (ci := 9) (v := .int 0) (ty := .int) (C := RX9) (T := TX9) (N := 9) hx hb hts inT_X9 tyX9 tyX9_ok nmX9 hown hK.1 hP hD hS 0 rfl rfl 6 (by decide) (hts _ k_200) (fun _ h9 => h9) rfl (by decide +kernel) rfl rfl (Nat.le_of_ble_eq_true rfl) dX9_clear_7 (fun H locs hP hD hS => ?_)
  have hP : va_P D vwCl [(t 0, .inr (9, [.ref (t 1), .ref (t 2), .ref (t 3), .ref (t 4), .ref (t 5), .int 0, .int 0, .int (nI p1), .int rf]))] H := hP
  have hD : va_D A [(t 0, .inr (9, [.ref (t 1), .ref (t 2), .ref (t 3), .ref (t 4), .ref (t 5), .int 0, .int 0, .int (nI p1), .int rf]))] := hD
  exact W.vret hx hb hr (fun tt9 ht hW => ⟨⟨((0 : Nat), (0 : Nat)), rfl, (lf_X9_clear_1 t un k1 p1 rf), ⟨by rw [ht]; exact hP, hD⟩⟩, hS.F ht⟩) hS.2.2 dX9_clear_10 hlocks

theorem lf_X9_beginClause_3 (t : Nat → Nat) (un : Nat) (k1 : Nat) (p1 : Nat) (rf : Int32) (fa3 : Nat → Int32) (fa4 : Nat → Int32) (n1 : Int32) (hk1 : k1 ≤ 14) (c_1 : 14 ≤ nI k1) : 14 ≤ k1 := by
  exact (nI_leI (a := 14) (b := k1) (by omega) (by omega)).mp c_1
theorem lf_X9_beginClause_4 (t : Nat → Nat) (un : Nat) (k1 : Nat) (p1 : Nat) (rf : Int32) (fa3 : Nat → Int32) (fa4 : Nat → Int32) (n1 : Int32) (hk1 : k1 ≤ 14) (c_1 : 14 ≤ nI k1) (n_2 : 14 ≤ k1) : ((k1 : Nat) ≤ 14) := by
  first | omega | assumption | trivial
theorem lf_X9_beginClause_6 (t : Nat → Nat) (un : Nat) (k1 : Nat) (p1 : Nat) (rf : Int32) (fa3 : Nat → Int32) (fa4 : Nat → Int32) (n1 : Int32) (hk1 : k1 ≤ 14) (c_1 : ¬ 14 ≤ nI k1) : k1 < 14 := by
  exact Nat.lt_of_not_le (fun q => c_1 ((nI_leI (a := 14) (b := k1) (by omega) (by omega)).mpr q))
theorem lf_X9_beginClause_8 (t : Nat → Nat) (un : Nat) (k1 : Nat) (p1 : Nat) (rf : Int32) (fa3 : Nat → Int32) (fa4 : Nat → Int32) (n1 : Int32) (hk1 : k1 ≤ 14) (c_1 : ¬ 14 ≤ nI k1) (n_5 : k1 < 14) : vp_in (nI k1) 14 := by
  first | exact vp_in_nI (by omega) (by decide) | (unfold vp_in; decide)
theorem lf_X9_beginClause_10 (t : Nat → Nat) (un : Nat) (k1 : Nat) (p1 : Nat) (rf : Int32) (fa3 : Nat → Int32) (fa4 : Nat → Int32) (n1 : Int32) (hk1 : k1 ≤ 14) (c_1 : ¬ 14 ≤ nI k1) (n_5 : k1 < 14) (f_7 : Nat → Int32) : vp_in (nI k1) 14 := by
  first | exact vp_in_nI (by omega) (by decide) | (unfold vp_in; decide)
theorem lf_X9_beginClause_11 (t : Nat → Nat) (un : Nat) (k1 : Nat) (p1 : Nat) (rf : Int32) (fa3 : Nat → Int32) (fa4 : Nat → Int32) (n1 : Int32) (hk1 : k1 ≤ 14) (c_1 : ¬ 14 ≤ nI k1) (n_5 : k1 < 14) (f_7 : Nat → Int32) (f_9 : Nat → Int32) : (((k1 + 1) : Nat) ≤ 14) := by
  first | omega | assumption | trivial
set_option maxHeartbeats 4000000 in
set_option maxRecDepth 100000 in
theorem c_X9_beginClause (l : Launch) (D : va_G) (cI cB cZ cJ : ClassId) (tx : List (ClassId × FieldType)) (t : Nat → Nat) (un : Nat) (k1 : Nat) (p1 : Nat) (rf : Int32) (fa3 : Nat → Int32) (fa4 : Nat → Int32) (n1 : Int32) (hk1 : k1 ≤ 14) : WrV l D cI cB cZ cJ tx yX9_beginClause cX9_beginClause 2 none 0 0 0 [.ref (t 0), .int n1] [(t 0, .inr (9, [.ref (t 1), .ref (t 2), .ref (t 3), .ref (t 4), .ref (t 5), .int (nI un), .int (nI k1), .int (nI p1), .int rf])), (t 3, .inl (cI, 14, .inl fa3)), (t 4, .inl (cI, 14, .inl fa4))] (fun (v : (Nat) × (Nat → Int32) × (Nat → Int32)) => (v.1 ≤ 14)) (fun v => [(t 0, .inr (9, [.ref (t 1), .ref (t 2), .ref (t 3), .ref (t 4), .ref (t 5), .int (nI un), .int (nI (v.1)), .int (nI p1), .int rf])), (t 3, .inl (cI, 14, .inl v.2.1)), (t 4, .inl (cI, 14, .inl v.2.2))]) := by
  refine wrv_of2 (by decide) (Nat.le_of_ble_eq_true rfl) ?_
  intro p e s m below meth c A ls H locs hC hK hP hD hA hS hl
  obtain ⟨hx, hb, hr, hml, hown, hts, hlocks, hin⟩ := hC
  have hown : s.vm.findClass RX9 = some m.cls := hown
  have hl : lv_has ls 2 [(0, .ref (t 0)), (1, .int n1)] := hl
  refine lv_aload_n hx hb dX9_beginClause_0 rfl (lv_at hl 0 rfl) ?_
  refine va_get (D := D) (ci := 9) (v := .int (nI k1)) (C := RX9) (T := TX9) (N := 9) hx hb hts inT_X9 hown hK.1 hP 0 rfl rfl 6 (by decide) (hts _ k_200) (fun _ h9 => h9) rfl dX9_beginClause_1 ?_
  refine lv_bipush (v := 14) hx hb dX9_beginClause_4 (by decide) ?_
  refine lv_icmp_ge (tgt := 42) hx hb dX9_beginClause_6 (by decide) (fun c_1 => ?_) (fun c_1 => ?_)
  · have n_2 : 14 ≤ k1 := (lf_X9_beginClause_3 t un k1 p1 rf fa3 fa4 n1 hk1 c_1)
    exact W.vret hx hb hr (fun tt9 ht hW => ⟨⟨((k1 : Nat), (fa3 : Nat → Int32), (fa4 : Nat → Int32)), rfl, (lf_X9_beginClause_4 t un k1 p1 rf fa3 fa4 n1 hk1 c_1 n_2), ⟨by rw [ht]; exact hP, hD⟩⟩, hS.F ht⟩) hS.2.2 dX9_beginClause_42 hlocks
  · have n_5 : k1 < 14 := (lf_X9_beginClause_6 t un k1 p1 rf fa3 fa4 n1 hk1 c_1)
    refine lv_aload_n hx hb dX9_beginClause_9 rfl (lv_at hl 0 rfl) ?_
    refine va_get (D := D) (ci := 9) (v := .ref (t 3)) (C := RX9) (T := TX9) (N := 9) hx hb hts inT_X9 hown hK.1 hP 0 rfl rfl 2 (by decide) (hts _ k_196) (fun _ h9 => h9) rfl dX9_beginClause_10 ?_
    refine lv_aload_n hx hb dX9_beginClause_13 rfl (lv_at hl 0 rfl) ?_
    refine va_get (D := D) (ci := 9) (v := .int (nI k1)) (C := RX9) (T := TX9) (N := 9) hx hb hts inT_X9 hown hK.1 hP 0 rfl rfl 6 (by decide) (hts _ k_200) (fun _ h9 => h9) rfl dX9_beginClause_14 ?_
    refine lv_iload_n hx hb dX9_beginClause_17 rfl (lv_at hl 1 rfl) ?_
    refine st_i hx hb hK hP hD hS 1 rfl (lf_X9_beginClause_8 t un k1 p1 rf fa3 fa4 n1 hk1 c_1 n_5) dX9_beginClause_18 (fun f_7 H locs hP hD hS => ?_)
    have hP : va_P D vwCl [(t 0, .inr (9, [.ref (t 1), .ref (t 2), .ref (t 3), .ref (t 4), .ref (t 5), .int (nI un), .int (nI k1), .int (nI p1), .int rf])), (t 3, .inl (cI, 14, .inl f_7)), (t 4, .inl (cI, 14, .inl fa4))] H := hP
    have hD : va_D A [(t 0, .inr (9, [.ref (t 1), .ref (t 2), .ref (t 3), .ref (t 4), .ref (t 5), .int (nI un), .int (nI k1), .int (nI p1), .int rf])), (t 3, .inl (cI, 14, .inl f_7)), (t 4, .inl (cI, 14, .inl fa4))] := hD
    refine lv_aload_n hx hb dX9_beginClause_19 rfl (lv_at hl 0 rfl) ?_
    refine va_get (D := D) (ci := 9) (v := .ref (t 4)) (C := RX9) (T := TX9) (N := 9) hx hb hts inT_X9 hown hK.1 hP 0 rfl rfl 3 (by decide) (hts _ k_197) (fun _ h9 => h9) rfl dX9_beginClause_20 ?_
    refine lv_aload_n hx hb dX9_beginClause_23 rfl (lv_at hl 0 rfl) ?_
    refine va_get (D := D) (ci := 9) (v := .int (nI k1)) (C := RX9) (T := TX9) (N := 9) hx hb hts inT_X9 hown hK.1 hP 0 rfl rfl 6 (by decide) (hts _ k_200) (fun _ h9 => h9) rfl dX9_beginClause_24 ?_
    refine lv_aload_n hx hb dX9_beginClause_27 rfl (lv_at hl 0 rfl) ?_
    refine va_get (D := D) (ci := 9) (v := .int (nI un)) (C := RX9) (T := TX9) (N := 9) hx hb hts inT_X9 hown hK.1 hP 0 rfl rfl 5 (by decide) (hts _ k_199) (fun _ h9 => h9) rfl dX9_beginClause_28 ?_
    refine st_i hx hb hK hP hD hS 2 rfl (lf_X9_beginClause_10 t un k1 p1 rf fa3 fa4 n1 hk1 c_1 n_5 f_7) dX9_beginClause_31 (fun f_9 H locs hP hD hS => ?_)
    have hP : va_P D vwCl [(t 0, .inr (9, [.ref (t 1), .ref (t 2), .ref (t 3), .ref (t 4), .ref (t 5), .int (nI un), .int (nI k1), .int (nI p1), .int rf])), (t 3, .inl (cI, 14, .inl f_7)), (t 4, .inl (cI, 14, .inl f_9))] H := hP
    have hD : va_D A [(t 0, .inr (9, [.ref (t 1), .ref (t 2), .ref (t 3), .ref (t 4), .ref (t 5), .int (nI un), .int (nI k1), .int (nI p1), .int rf])), (t 3, .inl (cI, 14, .inl f_7)), (t 4, .inl (cI, 14, .inl f_9))] := hD
    refine lv_aload_n hx hb dX9_beginClause_32 rfl (lv_at hl 0 rfl) ?_
    refine lv_dup hx hb dX9_beginClause_33 rfl ?_
    refine va_get (D := D) (ci := 9) (v := .int (nI k1)) (C := RX9) (T := TX9) (N := 9) hx hb hts inT_X9 hown hK.1 hP 0 rfl rfl 6 (by decide) (hts _ k_200) (fun _ h9 => h9) rfl dX9_beginClause_34 ?_
    refine lv_iconst (v := 1) hx hb dX9_beginClause_37 (by decide) ?_
    refine lv_iadd hx hb dX9_beginClause_38 ?_
    refine lv_topv (y := nI (k1 + 1)) (nI_add k1 1) ?_
    refine va_put (D := D) (ci := 9) (v := .int (nI (k1 + 1))) (ty := .int) (C := RX9) (T := TX9) (N := 9) hx hb hts inT_X9 tyX9 tyX9_ok nmX9 hown hK.1 hP hD hS 0 rfl rfl 6 (by decide) (hts _ k_200) (fun _ h9 => h9) rfl (by decide +kernel) rfl rfl (Nat.le_of_ble_eq_true rfl) dX9_beginClause_39 (fun H locs hP hD hS => ?_)
    have hP : va_P D vwCl [(t 0, .inr (9, [.ref (t 1), .ref (t 2), .ref (t 3), .ref (t 4), .ref (t 5), .int (nI un), .int (nI (k1 + 1)), .int (nI p1), .int rf])), (t 3, .inl (cI, 14, .inl f_7)), (t 4, .inl (cI, 14, .inl f_9))] H := hP
    have hD : va_D A [(t 0, .inr (9, [.ref (t 1), .ref (t 2), .ref (t 3), .ref (t 4), .ref (t 5), .int (nI un), .int (nI (k1 + 1)), .int (nI p1), .int rf])), (t 3, .inl (cI, 14, .inl f_7)), (t 4, .inl (cI, 14, .inl f_9))] := hD
    exact W.vret hx hb hr (fun tt9 ht hW => ⟨⟨(((k1 + 1) : Nat), (f_7 : Nat → Int32), (f_9 : Nat → Int32)), rfl, (lf_X9_beginClause_11 t un k1 p1 rf fa3 fa4 n1 hk1 c_1 n_5 f_7 f_9), ⟨by rw [ht]; exact hP, hD⟩⟩, hS.F ht⟩) hS.2.2 dX9_beginClause_42 hlocks

theorem lf_X9_beginCondition_3 (t : Nat → Nat) (un : Nat) (k1 : Nat) (p1 : Nat) (rf : Int32) (fa5 : Nat → Int32) (hk1 : k1 ≤ 14) (c_1 : nI k1 ≤ 0) : k1 ≤ 0 := by
  exact (nI_leI (a := k1) (b := 0) (by omega) (by omega)).mp c_1
theorem lf_X9_beginCondition_5 (t : Nat → Nat) (un : Nat) (k1 : Nat) (p1 : Nat) (rf : Int32) (fa5 : Nat → Int32) (hk1 : k1 ≤ 14) (c_1 : ¬ nI k1 ≤ 0) : 0 < k1 := by
  exact Nat.lt_of_not_le (fun q => c_1 ((nI_leI (a := k1) (b := 0) (by omega) (by omega)).mpr q))
theorem lf_X9_beginCondition_6 (t : Nat → Nat) (un : Nat) (k1 : Nat) (p1 : Nat) (rf : Int32) (fa5 : Nat → Int32) (hk1 : k1 ≤ 14) (c_1 : ¬ nI k1 ≤ 0) (n_4 : 0 < k1) : 1 ≤ k1 := by
  omega
theorem lf_X9_beginCondition_8 (t : Nat → Nat) (un : Nat) (k1 : Nat) (p1 : Nat) (rf : Int32) (fa5 : Nat → Int32) (hk1 : k1 ≤ 14) (c_1 : ¬ nI k1 ≤ 0) (n_4 : 0 < k1) : vp_in (nI (k1 - 1)) 14 := by
  first | exact vp_in_nI (by omega) (by decide) | (unfold vp_in; decide)
set_option maxHeartbeats 4000000 in
set_option maxRecDepth 100000 in
theorem c_X9_beginCondition (l : Launch) (D : va_G) (cI cB cZ cJ : ClassId) (tx : List (ClassId × FieldType)) (t : Nat → Nat) (un : Nat) (k1 : Nat) (p1 : Nat) (rf : Int32) (fa5 : Nat → Int32) (hk1 : k1 ≤ 14) : WrV l D cI cB cZ cJ tx yX9_beginCondition cX9_beginCondition 1 none 0 0 0 [.ref (t 0)] [(t 0, .inr (9, [.ref (t 1), .ref (t 2), .ref (t 3), .ref (t 4), .ref (t 5), .int (nI un), .int (nI k1), .int (nI p1), .int rf])), (t 5, .inl (cI, 14, .inl fa5))] (fun (v : (Nat → Int32)) => True) (fun v => [(t 0, .inr (9, [.ref (t 1), .ref (t 2), .ref (t 3), .ref (t 4), .ref (t 5), .int (nI un), .int (nI k1), .int (nI p1), .int rf])), (t 5, .inl (cI, 14, .inl v))]) := by
  refine wrv_of2 (by decide) (Nat.le_of_ble_eq_true rfl) ?_
  intro p e s m below meth c A ls H locs hC hK hP hD hA hS hl
  obtain ⟨hx, hb, hr, hml, hown, hts, hlocks, hin⟩ := hC
  have hown : s.vm.findClass RX9 = some m.cls := hown
  have hl : lv_has ls 1 [(0, .ref (t 0))] := hl
  refine lv_aload_n hx hb dX9_beginCondition_0 rfl (lv_at hl 0 rfl) ?_
  refine va_get (D := D) (ci := 9) (v := .int (nI k1)) (C := RX9) (T := TX9) (N := 9) hx hb hts inT_X9 hown hK.1 hP 0 rfl rfl 6 (by decide) (hts _ k_200) (fun _ h9 => h9) rfl dX9_beginCondition_1 ?_
  refine lv_if_le (tgt := 22) hx hb dX9_beginCondition_4 (by decide) (fun c_1 => ?_) (fun c_1 => ?_)
  · have n_2 : k1 ≤ 0 := (lf_X9_beginCondition_3 t un k1 p1 rf fa5 hk1 c_1)
    exact W.vret hx hb hr (fun tt9 ht hW => ⟨⟨((fa5 : Nat → Int32)), rfl, trivial, ⟨by rw [ht]; exact hP, hD⟩⟩, hS.F ht⟩) hS.2.2 dX9_beginCondition_22 hlocks
  · have n_4 : 0 < k1 := (lf_X9_beginCondition_5 t un k1 p1 rf fa5 hk1 c_1)
    refine lv_aload_n hx hb dX9_beginCondition_7 rfl (lv_at hl 0 rfl) ?_
    refine va_get (D := D) (ci := 9) (v := .ref (t 5)) (C := RX9) (T := TX9) (N := 9) hx hb hts inT_X9 hown hK.1 hP 0 rfl rfl 4 (by decide) (hts _ k_198) (fun _ h9 => h9) rfl dX9_beginCondition_8 ?_
    refine lv_aload_n hx hb dX9_beginCondition_11 rfl (lv_at hl 0 rfl) ?_
    refine va_get (D := D) (ci := 9) (v := .int (nI k1)) (C := RX9) (T := TX9) (N := 9) hx hb hts inT_X9 hown hK.1 hP 0 rfl rfl 6 (by decide) (hts _ k_200) (fun _ h9 => h9) rfl dX9_beginCondition_12 ?_
    refine lv_iconst (v := 1) hx hb dX9_beginCondition_15 (by decide) ?_
    refine lv_isub hx hb dX9_beginCondition_16 ?_
    refine lv_topv (y := nI (k1 - 1)) (pk_sub (lf_X9_beginCondition_6 t un k1 p1 rf fa5 hk1 c_1 n_4)) ?_
    refine lv_aload_n hx hb dX9_beginCondition_17 rfl (lv_at hl 0 rfl) ?_
    refine va_get (D := D) (ci := 9) (v := .int (nI un)) (C := RX9) (T := TX9) (N := 9) hx hb hts inT_X9 hown hK.1 hP 0 rfl rfl 5 (by decide) (hts _ k_199) (fun _ h9 => h9) rfl dX9_beginCondition_18 ?_
    refine st_i hx hb hK hP hD hS 1 rfl (lf_X9_beginCondition_8 t un k1 p1 rf fa5 hk1 c_1 n_4) dX9_beginCondition_21 (fun f_7 H locs hP hD hS => ?_)
    have hP : va_P D vwCl [(t 0, .inr (9, [.ref (t 1), .ref (t 2), .ref (t 3), .ref (t 4), .ref (t 5), .int (nI un), .int (nI k1), .int (nI p1), .int rf])), (t 5, .inl (cI, 14, .inl f_7))] H := hP
    have hD : va_D A [(t 0, .inr (9, [.ref (t 1), .ref (t 2), .ref (t 3), .ref (t 4), .ref (t 5), .int (nI un), .int (nI k1), .int (nI p1), .int rf])), (t 5, .inl (cI, 14, .inl f_7))] := hD
    exact W.vret hx hb hr (fun tt9 ht hW => ⟨⟨((f_7 : Nat → Int32)), rfl, trivial, ⟨by rw [ht]; exact hP, hD⟩⟩, hS.F ht⟩) hS.2.2 dX9_beginCondition_22 hlocks

theorem lf_X9_add_3 (t : Nat → Nat) (un : Nat) (k1 : Nat) (p1 : Nat) (rf : Int32) (fs : Nat → Int32) (k0 : Nat) (o0 : Nat) (hun : un ≤ 200) (hst : ∀ j, j < 200 → 0 ≤ fs j) (hk0 : k0 < 16) (ho0 : o0 ≤ 99999) (c_1 : nI un < 200) : un < 200 := by
  exact (nI_ltI (a := un) (b := 200) (by omega) (by omega)).mp c_1
theorem lf_X9_add_7 (t : Nat → Nat) (un : Nat) (k1 : Nat) (p1 : Nat) (rf : Int32) (fs : Nat → Int32) (k0 : Nat) (o0 : Nat) (hun : un ≤ 200) (hst : ∀ j, j < 200 → 0 ≤ fs j) (hk0 : k0 < 16) (ho0 : o0 ≤ 99999) (c_1 : nI un < 200) (n_2 : un < 200) (x_4 : Int32) (ex_4 : x_4 = nI o0 <<< (4 &&& 31)) (x_5 : Int32) (ex_5 : x_5 = x_4 ||| nI k0) : un < 200 := by
  omega
theorem lf_X9_add_8 (t : Nat → Nat) (un : Nat) (k1 : Nat) (p1 : Nat) (rf : Int32) (fs : Nat → Int32) (k0 : Nat) (o0 : Nat) (hun : un ≤ 200) (hst : ∀ j, j < 200 → 0 ≤ fs j) (hk0 : k0 < 16) (ho0 : o0 ≤ 99999) (c_1 : nI un < 200) (n_2 : un < 200) (x_4 : Int32) (ex_4 : x_4 = nI o0 <<< (4 &&& 31)) (x_5 : Int32) (ex_5 : x_5 = x_4 ||| nI k0) (f_6 : Nat → Int32) (ef_6 : f_6 = upd fs un x_5) : 1 ≤ (un + 1) := by
  omega
theorem lf_X9_add_9 (t : Nat → Nat) (un : Nat) (k1 : Nat) (p1 : Nat) (rf : Int32) (fs : Nat → Int32) (k0 : Nat) (o0 : Nat) (hun : un ≤ 200) (hst : ∀ j, j < 200 → 0 ≤ fs j) (hk0 : k0 < 16) (ho0 : o0 ≤ 99999) (c_1 : nI un < 200) (n_2 : un < 200) (x_4 : Int32) (ex_4 : x_4 = nI o0 <<< (4 &&& 31)) (x_5 : Int32) (ex_5 : x_5 = x_4 ||| nI k0) (f_6 : Nat → Int32) (ef_6 : f_6 = upd fs un x_5) : (∃ m : Nat, m ≤ 200 ∧ (nI ((un + 1) - 1) : Int32) = nI m) ∧ (((un + 1) : Nat) ≤ 200) ∧ (∀ j, j < 200 → 0 ≤ (f_6 : Nat → Int32) j) := by
  first
    | exact ⟨⟨_, by omega, rfl⟩, by omega, hst⟩
    | (refine ⟨⟨_, ?_, rfl⟩, ?_, st_upd hst (by assumption) ?_⟩
       · omega
       · omega
       · subst_vars; exact nn_or k0 (by omega) (by omega) rfl)
theorem lf_X9_add_11 (t : Nat → Nat) (un : Nat) (k1 : Nat) (p1 : Nat) (rf : Int32) (fs : Nat → Int32) (k0 : Nat) (o0 : Nat) (hun : un ≤ 200) (hst : ∀ j, j < 200 → 0 ≤ fs j) (hk0 : k0 < 16) (ho0 : o0 ≤ 99999) (c_1 : ¬ nI un < 200) : 200 ≤ un := by
  exact Nat.le_of_not_lt (fun q => c_1 ((nI_ltI (a := un) (b := 200) (by omega) (by omega)).mpr q))
theorem lf_X9_add_12 (t : Nat → Nat) (un : Nat) (k1 : Nat) (p1 : Nat) (rf : Int32) (fs : Nat → Int32) (k0 : Nat) (o0 : Nat) (hun : un ≤ 200) (hst : ∀ j, j < 200 → 0 ≤ fs j) (hk0 : k0 < 16) (ho0 : o0 ≤ 99999) (c_1 : ¬ nI un < 200) (n_10 : 200 ≤ un) : (∃ m : Nat, m ≤ 200 ∧ (nI un : Int32) = nI m) ∧ ((un : Nat) ≤ 200) ∧ (∀ j, j < 200 → 0 ≤ (fs : Nat → Int32) j) := by
  first
    | exact ⟨⟨_, by omega, rfl⟩, by omega, hst⟩
    | (refine ⟨⟨_, ?_, rfl⟩, ?_, st_upd hst (by assumption) ?_⟩
       · omega
       · omega
       · subst_vars; exact nn_or k0 (by omega) (by omega) rfl)
set_option maxHeartbeats 4000000 in
set_option maxRecDepth 100000 in
theorem c_X9_add (l : Launch) (D : va_G) (cI cB cZ cJ : ClassId) (tx : List (ClassId × FieldType)) (t : Nat → Nat) (un : Nat) (k1 : Nat) (p1 : Nat) (rf : Int32) (fs : Nat → Int32) (k0 : Nat) (o0 : Nat) (hun : un ≤ 200) (hst : ∀ j, j < 200 → 0 ≤ fs j) (hk0 : k0 < 16) (ho0 : o0 ≤ 99999) : WrI l D cI cB cZ cJ tx yX9_add cX9_add 3 (some .int) 0 0 0 [.ref (t 0), .int (nI k0), .int (nI o0)] [(t 0, .inr (9, [.ref (t 1), .ref (t 2), .ref (t 3), .ref (t 4), .ref (t 5), .int (nI un), .int (nI k1), .int (nI p1), .int rf])), (t 1, .inl (cI, 200, .inl fs))] (fun (r : Int32) (v : (Nat) × (Nat → Int32)) => (∃ m : Nat, m ≤ 200 ∧ r = nI m) ∧ (v.1 ≤ 200) ∧ (∀ j, j < 200 → 0 ≤ v.2 j)) (fun v => [(t 0, .inr (9, [.ref (t 1), .ref (t 2), .ref (t 3), .ref (t 4), .ref (t 5), .int (nI (v.1)), .int (nI k1), .int (nI p1), .int rf])), (t 1, .inl (cI, 200, .inl v.2))]) := by
  refine wri_of2 (by decide) (Nat.le_of_ble_eq_true rfl) ?_
  intro p e s m below meth c A ls H locs hC hK hP hD hA hS hl
  obtain ⟨hx, hb, hr, hml, hown, hts, hlocks, hin⟩ := hC
  have hown : s.vm.findClass RX9 = some m.cls := hown
  have hl : lv_has ls 3 [(0, .ref (t 0)), (1, .int (nI k0)), (2, .int (nI o0))] := hl
  refine lv_aload_n hx hb dX9_add_0 rfl (lv_at hl 0 rfl) ?_
  refine va_get (D := D) (ci := 9) (v := .int (nI un)) (C := RX9) (T := TX9) (N := 9) hx hb hts inT_X9 hown hK.1 hP 0 rfl rfl 5 (by decide) (hts _ k_199) (fun _ h9 => h9) rfl dX9_add_1 ?_
  refine lv_aload_n hx hb dX9_add_4 rfl (lv_at hl 0 rfl) ?_
  refine va_get (D := D) (ci := 9) (v := .ref (t 1)) (C := RX9) (T := TX9) (N := 9) hx hb hts inT_X9 hown hK.1 hP 0 rfl rfl 0 (by decide) (hts _ k_194) (fun _ h9 => h9) rfl dX9_add_5 ?_
  refine ln_x (v := 200) hx hb hK hP 1 0 rfl rfl (show Int32.ofNat 200 = 200 from by decide) dX9_add_8 ?_
  refine lv_icmp_lt (tgt := 17) hx hb dX9_add_9 (by decide) (fun c_1 => ?_) (fun c_1 => ?_)
  · have n_2 : un < 200 := (lf_X9_add_3 t un k1 p1 rf fs k0 o0 hun hst hk0 ho0 c_1)
    refine lv_aload_n hx hb dX9_add_17 rfl (lv_at hl 0 rfl) ?_
    refine va_get (D := D) (ci := 9) (v := .ref (t 1)) (C := RX9) (T := TX9) (N := 9) hx hb hts inT_X9 hown hK.1 hP 0 rfl rfl 0 (by decide) (hts _ k_194) (fun _ h9 => h9) rfl dX9_add_18 ?_
    refine lv_aload_n hx hb dX9_add_21 rfl (lv_at hl 0 rfl) ?_
    refine va_get (D := D) (ci := 9) (v := .int (nI un)) (C := RX9) (T := TX9) (N := 9) hx hb hts inT_X9 hown hK.1 hP 0 rfl rfl 5 (by decide) (hts _ k_199) (fun _ h9 => h9) rfl dX9_add_22 ?_
    refine lv_iload_n hx hb dX9_add_25 rfl (lv_at hl 2 rfl) ?_
    refine lv_iconst (v := 4) hx hb dX9_add_26 (by decide) ?_
    refine lv_ishl hx hb dX9_add_27 ?_
    refine lv_topi (fun x_4 ex_4 => ?_)
    refine lv_iload_n hx hb dX9_add_28 rfl (lv_at hl 1 rfl) ?_
    refine lv_ior hx hb dX9_add_29 ?_
    refine lv_topi (fun x_5 ex_5 => ?_)
    refine su_i (j := un) hx hb hK hP hD hS 1 rfl (lf_X9_add_7 t un k1 p1 rf fs k0 o0 hun hst hk0 ho0 c_1 n_2 x_4 ex_4 x_5 ex_5) (by decide) dX9_add_30 (fun f_6 H locs ef_6 hP hD hS => ?_)
    have hP : va_P D vwCl [(t 0, .inr (9, [.ref (t 1), .ref (t 2), .ref (t 3), .ref (t 4), .ref (t 5), .int (nI un), .int (nI k1), .int (nI p1), .int rf])), (t 1, .inl (cI, 200, .inl f_6))] H := hP
    have hD : va_D A [(t 0, .inr (9, [.ref (t 1), .ref (t 2), .ref (t 3), .ref (t 4), .ref (t 5), .int (nI un), .int (nI k1), .int (nI p1), .int rf])), (t 1, .inl (cI, 200, .inl f_6))] := hD
    refine lv_aload_n hx hb dX9_add_31 rfl (lv_at hl 0 rfl) ?_
    refine lv_dup hx hb dX9_add_32 rfl ?_
    refine va_get (D := D) (ci := 9) (v := .int (nI un)) (C := RX9) (T := TX9) (N := 9) hx hb hts inT_X9 hown hK.1 hP 0 rfl rfl 5 (by decide) (hts _ k_199) (fun _ h9 => h9) rfl dX9_add_33 ?_
    refine lv_iconst (v := 1) hx hb dX9_add_36 (by decide) ?_
    refine lv_iadd hx hb dX9_add_37 ?_
    refine lv_topv (y := nI (un + 1)) (nI_add un 1) ?_
    refine va_put (D := D) (ci := 9) (v := .int (nI (un + 1))) (ty := .int) (C := RX9) (T := TX9) (N := 9) hx hb hts inT_X9 tyX9 tyX9_ok nmX9 hown hK.1 hP hD hS 0 rfl rfl 5 (by decide) (hts _ k_199) (fun _ h9 => h9) rfl (by decide +kernel) rfl rfl (Nat.le_of_ble_eq_true rfl) dX9_add_38 (fun H locs hP hD hS => ?_)
    have hP : va_P D vwCl [(t 0, .inr (9, [.ref (t 1), .ref (t 2), .ref (t 3), .ref (t 4), .ref (t 5), .int (nI (un + 1)), .int (nI k1), .int (nI p1), .int rf])), (t 1, .inl (cI, 200, .inl f_6))] H := hP
    have hD : va_D A [(t 0, .inr (9, [.ref (t 1), .ref (t 2), .ref (t 3), .ref (t 4), .ref (t 5), .int (nI (un + 1)), .int (nI k1), .int (nI p1), .int rf])), (t 1, .inl (cI, 200, .inl f_6))] := hD
    refine lv_aload_n hx hb dX9_add_41 rfl (lv_at hl 0 rfl) ?_
    refine va_get (D := D) (ci := 9) (v := .int (nI (un + 1))) (C := RX9) (T := TX9) (N := 9) hx hb hts inT_X9 hown hK.1 hP 0 rfl rfl 5 (by decide) (hts _ k_199) (fun _ h9 => h9) rfl dX9_add_42 ?_
    refine lv_iconst (v := 1) hx hb dX9_add_45 (by decide) ?_
    refine lv_isub hx hb dX9_add_46 ?_
    refine lv_topv (y := nI ((un + 1) - 1)) (pk_sub (lf_X9_add_8 t un k1 p1 rf fs k0 o0 hun hst hk0 ho0 c_1 n_2 x_4 ex_4 x_5 ex_5 f_6 ef_6)) ?_
    exact W.iret (v := nI ((un + 1) - 1)) hx hb hr (fun tt9 ht hW => ⟨⟨(nI ((un + 1) - 1) : Int32), (((un + 1) : Nat), (f_6 : Nat → Int32)), rfl, (lf_X9_add_9 t un k1 p1 rf fs k0 o0 hun hst hk0 ho0 c_1 n_2 x_4 ex_4 x_5 ex_5 f_6 ef_6), ⟨by rw [ht]; exact hP, hD⟩⟩, hS.F ht⟩) hS.2.2 dX9_add_47 hlocks
  · have n_10 : 200 ≤ un := (lf_X9_add_11 t un k1 p1 rf fs k0 o0 hun hst hk0 ho0 c_1)
    refine lv_aload_n hx hb dX9_add_12 rfl (lv_at hl 0 rfl) ?_
    refine va_get (D := D) (ci := 9) (v := .int (nI un)) (C := RX9) (T := TX9) (N := 9) hx hb hts inT_X9 hown hK.1 hP 0 rfl rfl 5 (by decide) (hts _ k_199) (fun _ h9 => h9) rfl dX9_add_13 ?_
    exact W.iret (v := nI un) hx hb hr (fun tt9 ht hW => ⟨⟨(nI un : Int32), ((un : Nat), (fs : Nat → Int32)), rfl, (lf_X9_add_12 t un k1 p1 rf fs k0 o0 hun hst hk0 ho0 c_1 n_10), ⟨by rw [ht]; exact hP, hD⟩⟩, hS.F ht⟩) hS.2.2 dX9_add_16 hlocks

theorem lf_X9_landHere_2 (t : Nat → Nat) (un : Nat) (k1 : Nat) (p1 : Nat) (rf : Int32) (fs : Nat → Int32) (n1 : Int32) (hun : un ≤ 200) (hst : ∀ j, j < 200 → 0 ≤ fs j) (c_1 : n1 < 0) : (∀ j, j < 200 → 0 ≤ (fs : Nat → Int32) j) := by
  first
    | exact hst
    | (refine st_upd hst (by assumption) ?_; obtain ⟨q, hq, eq⟩ := pk_andE (fs kk) (m := 15) 4 (by decide); subst_vars; exact nn_or q (by omega) hq eq)
theorem lf_X9_landHere_4 (t : Nat → Nat) (un : Nat) (k1 : Nat) (p1 : Nat) (rf : Int32) (fs : Nat → Int32) (n1 : Int32) (hun : un ≤ 200) (hst : ∀ j, j < 200 → 0 ≤ fs j) (c_1 : ¬ n1 < 0) (c_3 : nI un ≤ n1) : (∀ j, j < 200 → 0 ≤ (fs : Nat → Int32) j) := by
  first
    | exact hst
    | (refine st_upd hst (by assumption) ?_; obtain ⟨q, hq, eq⟩ := pk_andE (fs kk) (m := 15) 4 (by decide); subst_vars; exact nn_or q (by omega) hq eq)
theorem lf_X9_landHere_6 (t : Nat → Nat) (un : Nat) (k1 : Nat) (p1 : Nat) (rf : Int32) (fs : Nat → Int32) (n1 : Int32) (hun : un ≤ 200) (hst : ∀ j, j < 200 → 0 ≤ fs j) (c_1 : ¬ n1 < 0) (c_3 : ¬ nI un ≤ n1) (kk : Nat) (hkk : kk < un) (ekk : n1 = nI kk) (x_5 : Int32) (ex_5 : x_5 = nI un <<< (4 &&& 31)) : kk < 200 := by
  omega
theorem lf_X9_landHere_10 (t : Nat → Nat) (un : Nat) (k1 : Nat) (p1 : Nat) (rf : Int32) (fs : Nat → Int32) (n1 : Int32) (hun : un ≤ 200) (hst : ∀ j, j < 200 → 0 ≤ fs j) (c_1 : ¬ n1 < 0) (c_3 : ¬ nI un ≤ n1) (kk : Nat) (hkk : kk < un) (ekk : n1 = nI kk) (x_5 : Int32) (ex_5 : x_5 = nI un <<< (4 &&& 31)) (x_7 : Int32) (ex_7 : x_7 = fs kk &&& 15) (x_8 : Int32) (ex_8 : x_8 = x_5 ||| x_7) : kk < 200 := by
  omega
theorem lf_X9_landHere_11 (t : Nat → Nat) (un : Nat) (k1 : Nat) (p1 : Nat) (rf : Int32) (fs : Nat → Int32) (n1 : Int32) (hun : un ≤ 200) (hst : ∀ j, j < 200 → 0 ≤ fs j) (c_1 : ¬ n1 < 0) (c_3 : ¬ nI un ≤ n1) (kk : Nat) (hkk : kk < un) (ekk : n1 = nI kk) (x_5 : Int32) (ex_5 : x_5 = nI un <<< (4 &&& 31)) (x_7 : Int32) (ex_7 : x_7 = fs kk &&& 15) (x_8 : Int32) (ex_8 : x_8 = x_5 ||| x_7) (f_9 : Nat → Int32) (ef_9 : f_9 = upd fs kk x_8) : (∀ j, j < 200 → 0 ≤ (f_9 : Nat → Int32) j) := by
  first
    | exact hst
    | (refine st_upd hst (by assumption) ?_; obtain ⟨q, hq, eq⟩ := pk_andE (fs kk) (m := 15) 4 (by decide); subst_vars; exact nn_or q (by omega) hq eq)
set_option maxHeartbeats 4000000 in
set_option maxRecDepth 100000 in
theorem c_X9_landHere (l : Launch) (D : va_G) (cI cB cZ cJ : ClassId) (tx : List (ClassId × FieldType)) (t : Nat → Nat) (un : Nat) (k1 : Nat) (p1 : Nat) (rf : Int32) (fs : Nat → Int32) (n1 : Int32) (hun : un ≤ 200) (hst : ∀ j, j < 200 → 0 ≤ fs j) : WrV l D cI cB cZ cJ tx yX9_landHere cX9_landHere 2 none 0 0 0 [.ref (t 0), .int n1] [(t 0, .inr (9, [.ref (t 1), .ref (t 2), .ref (t 3), .ref (t 4), .ref (t 5), .int (nI un), .int (nI k1), .int (nI p1), .int rf])), (t 1, .inl (cI, 200, .inl fs))] (fun (v : (Nat → Int32)) => (∀ j, j < 200 → 0 ≤ v j)) (fun v => [(t 0, .inr (9, [.ref (t 1), .ref (t 2), .ref (t 3), .ref (t 4), .ref (t 5), .int (nI un), .int (nI k1), .int (nI p1), .int rf])), (t 1, .inl (cI, 200, .inl v))]) := by
  refine wrv_of2 (by decide) (Nat.le_of_ble_eq_true rfl) ?_
  intro p e s m below meth c A ls H locs hC hK hP hD hA hS hl
  obtain ⟨hx, hb, hr, hml, hown, hts, hlocks, hin⟩ := hC
  have hown : s.vm.findClass RX9 = some m.cls := hown
  have hl : lv_has ls 2 [(0, .ref (t 0)), (1, .int n1)] := hl
  refine lv_iload_n hx hb dX9_landHere_0 rfl (lv_at hl 1 rfl) ?_
  refine lv_if_lt (tgt := 34) hx hb dX9_landHere_1 (by decide) (fun c_1 => ?_) (fun c_1 => ?_)
  · exact W.vret hx hb hr (fun tt9 ht hW => ⟨⟨((fs : Nat → Int32)), rfl, (lf_X9_landHere_2 t un k1 p1 rf fs n1 hun hst c_1), ⟨by rw [ht]; exact hP, hD⟩⟩, hS.F ht⟩) hS.2.2 dX9_landHere_34 hlocks
  · refine lv_iload_n hx hb dX9_landHere_4 rfl (lv_at hl 1 rfl) ?_
    refine lv_aload_n hx hb dX9_landHere_5 rfl (lv_at hl 0 rfl) ?_
    refine va_get (D := D) (ci := 9) (v := .int (nI un)) (C := RX9) (T := TX9) (N := 9) hx hb hts inT_X9 hown hK.1 hP 0 rfl rfl 5 (by decide) (hts _ k_199) (fun _ h9 => h9) rfl dX9_landHere_6 ?_
    refine lv_icmp_ge (tgt := 34) hx hb dX9_landHere_9 (by decide) (fun c_3 => ?_) (fun c_3 => ?_)
    · exact W.vret hx hb hr (fun tt9 ht hW => ⟨⟨((fs : Nat → Int32)), rfl, (lf_X9_landHere_4 t un k1 p1 rf fs n1 hun hst c_1 c_3), ⟨by rw [ht]; exact hP, hD⟩⟩, hS.F ht⟩) hS.2.2 dX9_landHere_34 hlocks
    · obtain ⟨kk, hkk, ekk⟩ := nat_of c_1 c_3
      subst ekk
      refine lv_aload_n hx hb dX9_landHere_12 rfl (lv_at hl 0 rfl) ?_
      refine va_get (D := D) (ci := 9) (v := .ref (t 1)) (C := RX9) (T := TX9) (N := 9) hx hb hts inT_X9 hown hK.1 hP 0 rfl rfl 0 (by decide) (hts _ k_194) (fun _ h9 => h9) rfl dX9_landHere_13 ?_
      refine lv_iload_n hx hb dX9_landHere_16 rfl (lv_at hl 1 rfl) ?_
      refine lv_aload_n hx hb dX9_landHere_17 rfl (lv_at hl 0 rfl) ?_
      refine va_get (D := D) (ci := 9) (v := .int (nI un)) (C := RX9) (T := TX9) (N := 9) hx hb hts inT_X9 hown hK.1 hP 0 rfl rfl 5 (by decide) (hts _ k_199) (fun _ h9 => h9) rfl dX9_landHere_18 ?_
      refine lv_iconst (v := 4) hx hb dX9_landHere_21 (by decide) ?_
      refine lv_ishl hx hb dX9_landHere_22 ?_
      refine lv_topi (fun x_5 ex_5 => ?_)
      refine lv_aload_n hx hb dX9_landHere_23 rfl (lv_at hl 0 rfl) ?_
      refine va_get (D := D) (ci := 9) (v := .ref (t 1)) (C := RX9) (T := TX9) (N := 9) hx hb hts inT_X9 hown hK.1 hP 0 rfl rfl 0 (by decide) (hts _ k_194) (fun _ h9 => h9) rfl dX9_landHere_24 ?_
      refine lv_iload_n hx hb dX9_landHere_27 rfl (lv_at hl 1 rfl) ?_
      refine lt_i (j := kk) hx hb hK hP 1 rfl (lf_X9_landHere_6 t un k1 p1 rf fs (nI kk) hun hst c_1 c_3 kk hkk rfl x_5 ex_5) (by decide) dX9_landHere_28 ?_
      refine lv_bipush (v := 15) hx hb dX9_landHere_29 (by decide) ?_
      refine lv_iand hx hb dX9_landHere_31 ?_
      refine lv_topi (fun x_7 ex_7 => ?_)
      refine lv_ior hx hb dX9_landHere_32 ?_
      refine lv_topi (fun x_8 ex_8 => ?_)
      refine su_i (j := kk) hx hb hK hP hD hS 1 rfl (lf_X9_landHere_10 t un k1 p1 rf fs (nI kk) hun hst c_1 c_3 kk hkk rfl x_5 ex_5 x_7 ex_7 x_8 ex_8) (by decide) dX9_landHere_33 (fun f_9 H locs ef_9 hP hD hS => ?_)
      have hP : va_P D vwCl [(t 0, .inr (9, [.ref (t 1), .ref (t 2), .ref (t 3), .ref (t 4), .ref (t 5), .int (nI un), .int (nI k1), .int (nI p1), .int rf])), (t 1, .inl (cI, 200, .inl f_9))] H := hP
      have hD : va_D A [(t 0, .inr (9, [.ref (t 1), .ref (t 2), .ref (t 3), .ref (t 4), .ref (t 5), .int (nI un), .int (nI k1), .int (nI p1), .int rf])), (t 1, .inl (cI, 200, .inl f_9))] := hD
      exact W.vret hx hb hr (fun tt9 ht hW => ⟨⟨((f_9 : Nat → Int32)), rfl, (lf_X9_landHere_11 t un k1 p1 rf fs (nI kk) hun hst c_1 c_3 kk hkk rfl x_5 ex_5 x_7 ex_7 x_8 ex_8 f_9 ef_9), ⟨by rw [ht]; exact hP, hD⟩⟩, hS.F ht⟩) hS.2.2 dX9_landHere_34 hlocks
